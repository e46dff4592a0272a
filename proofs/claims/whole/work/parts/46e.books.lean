/-! image, back: books copied -/
theorem LawObj_g {gi gi' : GI} {g g' : AG} {q : Nat} {l : List PC} (h : LawObj gi g q l) (h4 : ∀ j, gi' 4 q j = gi 4 q j) (h60 : ∀ j, gi' 60 q j = gi 60 q j) (h61 : ∀ j, gi' 61 q j = gi 61 q j) (h62 : ∀ a j, a < 3 * q + 3 → gi' 62 a j = gi 62 a j) (g4 : ∀ j, g'.1 4 q j = g.1 4 q j) (l60 : g'.2.2.1 60 q = g.2.2.1 60 q) (l61 : g'.2.2.1 61 q = g.2.2.1 61 q) (l62 : ∀ a, a < 3 * q + 3 → g'.2.2.1 62 a = g.2.2.1 62 a) : LawObj gi' g' q l := by
  obtain ⟨h0, r1, r2, r3, r4, r5, l0, l2, l1, l4, l5, hc, h12, h400⟩ := h
  exact ⟨(h4 0).trans h0, (g4 _).trans r1, (g4 _).trans r2, (g4 _).trans r3, (g4 _).trans r4, (g4 _).trans r5, (l62 _ (by omega)).trans l0, l60.trans l2, l61.trans l1, (l62 _ (by omega)).trans l4, (l62 _ (by omega)).trans l5, CsAt_congr (fun j => h62 _ j (by omega)) (fun j => h60 j) (fun j => h61 j) (fun j => h62 _ j (by omega)) (fun j => h62 _ j (by omega)) hc, h12, h400⟩
theorem Books_cp {gi gi' : GI} {g g' : AG} {r r' : Nat} {K K' : Nat → Int32} {Ls : Nat → List PC} (h : BooksR gi g r K Ls) (e : ∀ j, j < 5605 → K' j = K j) (h1 : ∀ j, j = 1 ∨ j = 3 ∨ j = 4 → gi' 1 r' j = gi 1 r j) (h28 : ∀ k, k < 4 → gi' 28 r' k = gi 28 r k) (h2 : ∀ t i, t < 6 → i < 4 → gi' 2 (6 * r' + t) i = gi 2 (6 * r + t) i) (h29 : ∀ t c, t < 6 → c < 64 → gi' 29 (6 * r' + t) c = gi 29 (6 * r + t) c ∧ gi' 30 (6 * r' + t) c = gi 30 (6 * r + t) c) (h27 : ∀ l, l < 6 → g'.1 27 r' l = g.1 27 r l) (hlw : ∀ q l, q < g.2.1 4 → LawObj gi g q l → LawObj gi' g' q l) (hq : g.2.1 4 ≤ g'.2.1 4) : BooksR gi' g' r' K' Ls := by
  obtain ⟨n, m, ⟨a1, a2, a3, a4, a5, a6, a7, a8, a9, a10⟩, hT, hL⟩ := h
  refine ⟨n, m, ⟨a1, a2, (e 796 (by omega)).trans a3, (e 797 (by omega)).trans a4, (h1 1 (by omega)).trans a5, (h1 3 (by omega)).trans a6, ?_, ?_, TermOK_of a9 (fun j _ q => e j (by omega)), fun k hk => ?_⟩, fun t ht => ?_, fun l hl => ?_⟩
  · rw [h1 4 (by omega), e 798 (by omega), a7]
  · rw [e 798 (by omega)]
    exact a8
  · rw [h28 k hk, e _ (by omega), a10 k hk]
  · obtain ⟨⟨W, T, O, b, hh, q1⟩, q2, q3⟩ := hT t ht
    refine ⟨⟨W, T, O, b, hh, ThOK_of q1 (fun j _ p => e j (by omega))⟩, fun i hi => ?_, fun c hc => ⟨?_, ?_⟩⟩
    · rw [h2 t i (by omega) hi, e _ (by omega), q2 i hi]
    · rw [(h29 t c (by omega) hc).1, e _ (by omega), (q3 c hc).1]
    · rw [(h29 t c (by omega) hc).2, e _ (by omega), (q3 c hc).2]
  · obtain ⟨q1, q, q2, q3, q4⟩ := hL l hl
    exact ⟨KLaw_of q1 (by omega) (fun j _ p => e j p), q, (h27 l (by omega)).trans q2, by omega, hlw q _ q3 q4⟩
theorem c_Thing_copy {d p q : Nat} {gi : GI} {g : AG} {Q : Option AV → AH → Prop} (hG : GOK g) (hne : q ≠ p) (hq : ∀ gi', (∀ s a j, ¬ ((s = 2 ∨ s = 29 ∨ s = 30) ∧ a = p) → gi' s a j = gi s a j) → (∀ i, i < 4 → gi' 2 p i = gi 2 q i) → (∀ c, c < 64 → gi' 29 p c = gi 29 q c ∧ gi' 30 p c = gi 30 q c) → Q none (gi', g)) : ax_call (d + 1) m_Thing_copy [.inr (.inr (some (2, p))), .inr (.inr (some (2, q)))] (gi, g) Q := by
  have w : ∀ (G : GI) j v i, ax_wI G 2 p j v 2 q i = G 2 q i := fun G j v i => by rw [wI_at, if_neg (by omega)]
  have c0 : (n32 0).toNatClampNeg = 0 := by decide
  have c64 : (n32 64).toNatClampNeg = 64 := by decide
  have nn : ¬ n32 64 < n32 0 := by decide
  have n0 : ¬ n32 0 < n32 0 := by decide
  rw [e_Thing_copy, b_Thing_copy_0]
  simp only [w, c0, c64]
  refine ⟨G_2_4 hG q, G_2_4 hG p, ⟨⟨n0, n0, nn, by omega, by omega⟩, Or.inl (by trivial)⟩, G_2_5 hG q, G_2_5 hG p, ⟨⟨n0, n0, nn, by omega, by omega⟩, Or.inl (by trivial)⟩, ?_⟩
  refine hq _ ?_ ?_ ?_
  · intro s a j z
    rw [cI_at, if_neg (by omega), cI_at, if_neg (by omega), wI_at, if_neg (by omega), wI_at, if_neg (by omega), wI_at, if_neg (by omega), wI_at, if_neg (by omega)]
  · intro i hi
    rw [cI_at, if_neg (by omega), cI_at, if_neg (by omega)]
    have cs : i = 0 ∨ i = 1 ∨ i = 2 ∨ i = 3 := by omega
    rcases cs with rfl | rfl | rfl | rfl
    · rw [wI_at, if_neg (by omega), wI_at, if_neg (by omega), wI_at, if_neg (by omega), wI_self]
    · rw [wI_at, if_neg (by omega), wI_at, if_neg (by omega), wI_self]
    · rw [wI_at, if_neg (by omega), wI_self]
    · rw [wI_self]
  · intro c hc
    constructor
    · rw [cI_at, if_neg (by omega), cI_at, if_pos ⟨rfl, rfl, by omega, by omega⟩, wI_ne (by decide), wI_ne (by decide), wI_ne (by decide), wI_ne (by decide), show 0 + (c - 0) = c by omega]
    · rw [cI_at, if_pos ⟨rfl, rfl, by omega, by omega⟩, cI_at, if_neg (by omega), wI_ne (by decide), wI_ne (by decide), wI_ne (by decide), wI_ne (by decide), show 0 + (c - 0) = c by omega]
theorem c_Books_copy {d p q : Nat} {gi : GI} {g : AG} {Q : Option AV → AH → Prop} (hG : GOK g) (hS : LawSlots g) (hne : q ≠ p)
    (hq : ∀ gi' g', (∀ s a j, ¬ ((s = 1 ∨ s = 28) ∧ a = p) → ¬ ((s = 2 ∨ s = 29 ∨ s = 30) ∧ 6 * p ≤ a ∧ a < 6 * p + 6) → gi' s a j = gi s a j) → (∀ j, j = 1 ∨ j = 3 ∨ j = 4 → gi' 1 p j = gi 1 q j) → (∀ k, k < 4 → gi' 28 p k = gi 28 q k) → (∀ t i, t < 6 → i < 4 → gi' 2 (6 * p + t) i = gi 2 (6 * q + t) i) → (∀ t c, t < 6 → c < 64 → gi' 29 (6 * p + t) c = gi 29 (6 * q + t) c ∧ gi' 30 (6 * p + t) c = gi 30 (6 * q + t) c) → (∀ s a j, ¬ (s = 27 ∧ a = p) → g'.1 s a j = g.1 s a j) → (∀ l, l < 6 → g'.1 27 p l = g.1 27 q l) → g'.2 = g.2 → Q none (gi', g')) :
    ax_call (d + 2) m_Books_copy [.inr (.inr (some (1, p))), .inr (.inr (some (1, q)))] (gi, g) Q := by
  have w : ∀ (G : GI) j v i, ax_wI G 1 p j v 1 q i = G 1 q i := fun G j v i => by rw [wI_at, if_neg (by omega)]
  have c0 : (n32 0).toNatClampNeg = 0 := by decide
  have c4 : (n32 4).toNatClampNeg = 4 := by decide
  have nn : ¬ n32 4 < n32 0 := by decide
  have n0 : ¬ n32 0 < n32 0 := by decide
  -- the laws
  have kl := fun (gi1 : GI) (f1 : ∀ s a j, ¬ (s = 1 ∧ a = p) → ¬ ((s = 2 ∨ s = 29 ∨ s = 30) ∧ 6 * p ≤ a ∧ a < 6 * p + 6) → gi1 s a j = gi s a j) (f2 : ∀ j, j = 1 ∨ j = 3 ∨ j = 4 → gi1 1 p j = gi 1 q j) (f3 : ∀ t i, t < 6 → i < 4 → gi1 2 (6 * p + t) i = gi 2 (6 * q + t) i) (f4 : ∀ t c, t < 6 → c < 64 → gi1 29 (6 * p + t) c = gi 29 (6 * q + t) c ∧ gi1 30 (6 * p + t) c = gi 30 (6 * q + t) c) => loop_up (n := 6) (P := fun i => ∀ g1 : AG, (∀ s a j, ¬ (s = 27 ∧ a = p) → g1.1 s a j = g.1 s a j) → (∀ l, l < i → g1.1 27 p l = g.1 27 q l) → g1.2 = g.2 → Runs (d + 1) (m_Books_copy, 55, [some (.inr (.inr (some (1, p)))), some (.inr (.inr (some (1, q)))), some (.inl (n32 i))], []) (gi1, g1) Q) (by
    intro i hi ih g1 g27 gl ge
    have hG1 : GOK g1 := GOK_of hG (fun s a j _ _ _ _ z => g27 s a j (by omega))
    have hi6 : n32 i < n32 6 := by
      rw [n32_lt (by omega) (by omega)]
      exact hi
    rw [b_Books_copy_55, bq_t hi6, b_Books_copy_61, n32_clamp (by omega), n32_add]
    refine ⟨G_1_2 hG1 p, G_1_2 hG1 q, n32_in hi (by omega), ⟨n32_in hi (by omega), ?_⟩, ?_⟩
    · rw [g27 27 q i (by omega)]
      rcases hS q i hi with z | ⟨u, z⟩
      · exact Or.inl z
      · exact Or.inr ⟨u, z⟩
    · refine ih _ ?_ ?_ ge
      · intro s a j z
        show ax_wR g1.1 27 p i _ s a j = _
        rw [wR_at, if_neg (by omega)]
        exact g27 s a j z
      · intro l hl
        show ax_wR g1.1 27 p i _ 27 p l = _
        rw [wR_at]
        by_cases z : l = i
        · rw [if_pos ⟨rfl, rfl, z⟩, z]
          exact g27 27 q i (by omega)
        · rw [if_neg (by omega)]
          exact gl l (by omega)) (by
    intro g1 g27 gl ge
    have hG1 : GOK g1 := GOK_of hG (fun s a j _ _ _ _ z => g27 s a j (by omega))
    have hi6 : ¬ n32 6 < n32 6 := by
      rw [n32_lt (by omega) (by omega)]
      omega
    rw [b_Books_copy_55, bq_f hi6, b_Books_copy_79, c0, c4]
    refine ⟨G_1_5 hG1 q, G_1_5 hG1 p, ⟨⟨n0, n0, nn, by omega, by omega⟩, Or.inl rfl⟩, ?_⟩
    refine hq _ g1 ?_ ?_ ?_ ?_ ?_ g27 gl ge
    · intro s a j z1 z2
      rw [cI_at, if_neg (by omega)]
      exact f1 s a j (by omega) z2
    · intro j hj
      rw [cI_at, if_neg (by omega)]
      exact f2 j hj
    · intro k hk
      rw [cI_at, if_pos ⟨rfl, rfl, by omega, by omega⟩, show 0 + (k - 0) = k by omega]
      exact f1 28 q k (by omega) (by omega)
    · intro t i ht hi
      rw [cI_at, if_neg (by omega)]
      exact f3 t i ht hi
    · intro t c ht hc
      rw [cI_at, if_neg (by omega), cI_at, if_neg (by omega)]
      exact f4 t c ht hc)
  -- the things
  have key := loop_up (n := 6) (P := fun i => ∀ gi1 : GI, (∀ s a j, ¬ (s = 1 ∧ a = p) → ¬ ((s = 2 ∨ s = 29 ∨ s = 30) ∧ 6 * p ≤ a ∧ a < 6 * p + 6) → gi1 s a j = gi s a j) → (∀ j, j = 1 ∨ j = 3 ∨ j = 4 → gi1 1 p j = gi 1 q j) → (∀ t u, t < i → u < 4 → gi1 2 (6 * p + t) u = gi 2 (6 * q + t) u) → (∀ t c, t < i → c < 64 → gi1 29 (6 * p + t) c = gi 29 (6 * q + t) c ∧ gi1 30 (6 * p + t) c = gi 30 (6 * q + t) c) → Runs (d + 1) (m_Books_copy, 26, [some (.inr (.inr (some (1, p)))), some (.inr (.inr (some (1, q)))), some (.inl (n32 i))], []) (gi1, g) Q) ?_ ?_
  · rw [e_Books_copy, b_Books_copy_0]
    simp only [w]
    refine key 0 (Nat.zero_le _) _ ?_ ?_ (fun t u ht => absurd ht (Nat.not_lt_zero t)) (fun t u ht => absurd ht (Nat.not_lt_zero t))
    · intro s a j z1 z2
      rw [wI_at, if_neg (by omega), wI_at, if_neg (by omega), wI_at, if_neg (by omega)]
    · intro j hj
      rcases hj with rfl | rfl | rfl
      · rw [wI_at, if_neg (by omega), wI_at, if_neg (by omega), wI_self]
      · rw [wI_at, if_neg (by omega), wI_self]
      · rw [wI_self]
  · intro i hi ih gi1 f1 f2 f3 f4
    have hi6 : n32 i < n32 6 := by
      rw [n32_lt (by omega) (by omega)]
      exact hi
    rw [b_Books_copy_26, bq_t hi6, b_Books_copy_32, n32_clamp (by omega)]
    refine ⟨G_1_0 hG p, ⟨n32_in hi (by omega), G_26 hG p i⟩, G_1_0 hG q, ⟨n32_in hi (by omega), G_26 hG q i⟩, ?_⟩
    refine c_Thing_copy hG (by omega) ?_
    intro gi2 k1 k2 k3
    simp only [b_Books_copy_47, n32_add, ax_psh_none, ax_psh_some, true_and, and_true, and_false, false_and, not_true_eq_false, not_false_eq_true, true_imp_iff, false_imp_iff, imp_self, or_true, true_or, or_false, false_or, and_self, ite_true, ite_false, if_true, if_false]
    refine ih gi2 ?_ ?_ ?_ ?_
    · intro s a j z1 z2
      rw [k1 s a j (by omega)]
      exact f1 s a j z1 z2
    · intro j hj
      rw [k1 1 p j (by omega)]
      exact f2 j hj
    · intro t u ht hu
      by_cases z : t = i
      · rw [z, k2 u hu]
        exact f1 2 _ u (by omega) (by omega)
      · rw [k1 2 _ u (by omega)]
        exact f3 t u (by omega) hu
    · intro t c ht hc
      by_cases z : t = i
      · rw [z, (k3 c hc).1, (k3 c hc).2]
        exact ⟨f1 29 _ c (by omega) (by omega), f1 30 _ c (by omega) (by omega)⟩
      · rw [k1 29 _ c (by omega), k1 30 _ c (by omega)]
        exact f4 t c (by omega) hc
  · intro gi1 f1 f2 f3 f4
    have hi6 : ¬ n32 6 < n32 6 := by
      rw [n32_lt (by omega) (by omega)]
      omega
    rw [b_Books_copy_26, bq_f hi6, b_Books_copy_53]
    exact kl gi1 f1 f2 f3 f4 0 (Nat.zero_le _) g (fun _ _ _ _ => rfl) (fun l hl => absurd hl (Nat.not_lt_zero l)) rfl
/-! image -/
theorem c_M_image {d k : Nat} {gi : GI} {g : AG} {Q : Option AV → AH → Prop} (hG : GOK g) (hk : k < 2) (hq : ∀ gi', (∀ s a j, ¬ (s = 65 ∧ a = 0 ∧ 5605 * k ≤ j ∧ j < 5605 * k + 5605) → gi' s a j = gi s a j) → (∀ i, i < 5605 → gi' 65 0 (5605 * k + i) = gi 64 0 i) → Q (some (.inl (n32 0))) (donM (ax_wI gi' 66 0 k (n32 1)), g)) : ax_call (d + 2) m_M_image [.inr (.inr (some (12, 0))), .inl (n32 k)] (gi, g) Q := by
  have key := loop_up (n := 5605) (P := fun i => ∀ gi1 : GI, (∀ s a j, ¬ (s = 65 ∧ a = 0 ∧ 5605 * k ≤ j ∧ j < 5605 * k + 5605) → gi1 s a j = gi s a j) → (∀ c, c < i → gi1 65 0 (5605 * k + c) = gi 64 0 c) → Runs (d + 1) (m_M_image, 17, [some (.inr (.inr (some (12, 0)))), some (.inl (n32 k)), some (.inl (n32 i))], []) (gi1, g) Q) ?_ ?_
  · rw [e_M_image]
    simp (disch := omega) only [b_M_image_0, b_M_image_6, b_M_image_15, c_M_lies, win_T, n32_add, n32_mul, n32_lt, n32_le, n32_eq, n32_clamp, n32_inT, n32_div, n32_rem, n32_m1, n32_m1', n32_m1lt, n32_ltm1, n32_10, n32_01, Nat.not_lt_zero, Nat.lt_irrefl, Nat.mul_zero, Nat.zero_mul, Nat.zero_add, Nat.add_zero, Nat.reduceEqDiff, Nat.one_ne_zero, Nat.zero_ne_one, ax_psh_none, ax_psh_some, true_and, and_true, and_false, false_and, not_true_eq_false, not_false_eq_true, true_imp_iff, false_imp_iff, imp_self, or_true, true_or, or_false, false_or, and_self, ite_true, ite_false, if_true, if_false]
    exact key 0 (Nat.zero_le _) gi (fun _ _ _ _ => rfl) (fun c hc => absurd hc (Nat.not_lt_zero c))
  · intro i hi ih gi1 f1 f2
    rw [b_M_image_17]
    simp (disch := omega) only [b_M_image_24, hi, G_0_0 hG, G_0_1 hG, G_0_2 hG, G_0_3 hG, G_0_7 hG, G_0_10 hG, G_0_12 hG, G_0_13 hG, G_0_14 hG, G_0_15 hG, G_0_16 hG, G_0_17 hG, G_1_0 hG, G_1_2 hG, G_1_5 hG, G_2_4 hG, G_2_5 hG, G_3_5 hG, G_3_6 hG, G_3_7 hG, G_3_8 hG, G_3_9 hG, G_5_0 hG, G_5_1 hG, G_6_0 hG, G_6_1 hG, G_6_2 hG, G_6_9 hG, G_6_10 hG, G_6_11 hG, G_6_12 hG, G_6_13 hG, G_7_0 hG, G_7_5 hG, G_8_8 hG, G_8_9 hG, G_9_8 hG, G_9_9 hG, G_10_7 hG, G_10_8 hG, G_10_9 hG, G_10_10 hG, G_10_11 hG, G_11_0 hG, G_12_2 hG, G_12_3 hG, G_12_4 hG, G_12_5 hG, G_12_7 hG, G_12_8 hG, G_12_9 hG, G_12_12 hG, G_12_13 hG, G_12_14 hG, G_12_22 hG, G_12_23 hG, G_12_29 hG, G_12_30 hG, G_12_31 hG, G_12_37 hG, G_12_38 hG, G_12_39 hG, G_12_40 hG, G_12_41 hG, G_12_43 hG, G_12_46 hG, G_12_47 hG, G_12_48 hG, G_25 hG, G_26 hG, G_47 hG, G_58 hG, n32_add, n32_mul, n32_lt, n32_le, n32_eq, n32_clamp, n32_inT, n32_div, n32_rem, n32_m1, n32_m1', n32_m1lt, n32_ltm1, n32_10, n32_01, Nat.not_lt_zero, Nat.lt_irrefl, Nat.mul_zero, Nat.zero_mul, Nat.zero_add, Nat.add_zero, Nat.reduceEqDiff, Nat.one_ne_zero, Nat.zero_ne_one, ax_psh_none, ax_psh_some, true_and, and_true, and_false, false_and, not_true_eq_false, not_false_eq_true, true_imp_iff, false_imp_iff, imp_self, or_true, true_or, or_false, false_or, and_self, ite_true, ite_false, if_true, if_false]
    refine ih _ ?_ ?_
    · intro s a j z
      rw [wI_at, if_neg (by omega)]
      exact f1 s a j z
    · intro c hc
      rw [wI_at]
      by_cases z : c = i
      · rw [if_pos ⟨rfl, rfl, by omega⟩, z]
        exact f1 64 0 i (by omega)
      · rw [if_neg (by omega)]
        exact f2 c (by omega)
  · intro gi1 f1 f2
    rw [b_M_image_17]
    simp (disch := omega) only [b_M_image_48, b_M_image_60, c_M_good, G_0_0 hG, G_0_1 hG, G_0_2 hG, G_0_3 hG, G_0_7 hG, G_0_10 hG, G_0_12 hG, G_0_13 hG, G_0_14 hG, G_0_15 hG, G_0_16 hG, G_0_17 hG, G_1_0 hG, G_1_2 hG, G_1_5 hG, G_2_4 hG, G_2_5 hG, G_3_5 hG, G_3_6 hG, G_3_7 hG, G_3_8 hG, G_3_9 hG, G_5_0 hG, G_5_1 hG, G_6_0 hG, G_6_1 hG, G_6_2 hG, G_6_9 hG, G_6_10 hG, G_6_11 hG, G_6_12 hG, G_6_13 hG, G_7_0 hG, G_7_5 hG, G_8_8 hG, G_8_9 hG, G_9_8 hG, G_9_9 hG, G_10_7 hG, G_10_8 hG, G_10_9 hG, G_10_10 hG, G_10_11 hG, G_11_0 hG, G_12_2 hG, G_12_3 hG, G_12_4 hG, G_12_5 hG, G_12_7 hG, G_12_8 hG, G_12_9 hG, G_12_12 hG, G_12_13 hG, G_12_14 hG, G_12_22 hG, G_12_23 hG, G_12_29 hG, G_12_30 hG, G_12_31 hG, G_12_37 hG, G_12_38 hG, G_12_39 hG, G_12_40 hG, G_12_41 hG, G_12_43 hG, G_12_46 hG, G_12_47 hG, G_12_48 hG, G_25 hG, G_26 hG, G_47 hG, G_58 hG, n32_add, n32_mul, n32_lt, n32_le, n32_eq, n32_clamp, n32_inT, n32_div, n32_rem, n32_m1, n32_m1', n32_m1lt, n32_ltm1, n32_10, n32_01, Nat.not_lt_zero, Nat.lt_irrefl, Nat.mul_zero, Nat.zero_mul, Nat.zero_add, Nat.add_zero, Nat.reduceEqDiff, Nat.one_ne_zero, Nat.zero_ne_one, ax_psh_none, ax_psh_some, true_and, and_true, and_false, false_and, not_true_eq_false, not_false_eq_true, true_imp_iff, false_imp_iff, imp_self, or_true, true_or, or_false, false_or, and_self, ite_true, ite_false, if_true, if_false]
    exact hq gi1 f1 f2
theorem c_M_back {d k : Nat} {gi : GI} {g : AG} {Q : Option AV → AH → Prop} (hG : GOK g) (hk : k < 2) (h66 : gi 66 0 k = n32 1) (hq : ∀ gi', (∀ s a j, ¬ (s = 64 ∧ a = 0) → gi' s a j = gi s a j) → (∀ i, i < 5605 → gi' 64 0 i = gi 65 0 (5605 * k + i)) → Q (some (.inl (n32 0))) (donM gi', g)) : ax_call (d + 2) m_M_back [.inr (.inr (some (12, 0))), .inl (n32 k)] (gi, g) Q := by
  have key := loop_up (n := 5605) (P := fun i => ∀ gi1 : GI, (∀ s a j, ¬ (s = 64 ∧ a = 0) → gi1 s a j = gi s a j) → (∀ c, c < i → gi1 64 0 c = gi 65 0 (5605 * k + c)) → Runs (d + 1) (m_M_back, 33, [some (.inr (.inr (some (12, 0)))), some (.inl (n32 k)), some (.inl (n32 i))], []) (gi1, g) Q) ?_ ?_
  · rw [e_M_back]
    simp (disch := omega) only [b_M_back_0, b_M_back_6, b_M_back_15, b_M_back_31, c_M_lies, win_T, h66, G_0_0 hG, G_0_1 hG, G_0_2 hG, G_0_3 hG, G_0_7 hG, G_0_10 hG, G_0_12 hG, G_0_13 hG, G_0_14 hG, G_0_15 hG, G_0_16 hG, G_0_17 hG, G_1_0 hG, G_1_2 hG, G_1_5 hG, G_2_4 hG, G_2_5 hG, G_3_5 hG, G_3_6 hG, G_3_7 hG, G_3_8 hG, G_3_9 hG, G_5_0 hG, G_5_1 hG, G_6_0 hG, G_6_1 hG, G_6_2 hG, G_6_9 hG, G_6_10 hG, G_6_11 hG, G_6_12 hG, G_6_13 hG, G_7_0 hG, G_7_5 hG, G_8_8 hG, G_8_9 hG, G_9_8 hG, G_9_9 hG, G_10_7 hG, G_10_8 hG, G_10_9 hG, G_10_10 hG, G_10_11 hG, G_11_0 hG, G_12_2 hG, G_12_3 hG, G_12_4 hG, G_12_5 hG, G_12_7 hG, G_12_8 hG, G_12_9 hG, G_12_12 hG, G_12_13 hG, G_12_14 hG, G_12_22 hG, G_12_23 hG, G_12_29 hG, G_12_30 hG, G_12_31 hG, G_12_37 hG, G_12_38 hG, G_12_39 hG, G_12_40 hG, G_12_41 hG, G_12_43 hG, G_12_46 hG, G_12_47 hG, G_12_48 hG, G_25 hG, G_26 hG, G_47 hG, G_58 hG, n32_add, n32_mul, n32_lt, n32_le, n32_eq, n32_clamp, n32_inT, n32_div, n32_rem, n32_m1, n32_m1', n32_m1lt, n32_ltm1, n32_10, n32_01, Nat.not_lt_zero, Nat.lt_irrefl, Nat.mul_zero, Nat.zero_mul, Nat.zero_add, Nat.add_zero, Nat.reduceEqDiff, Nat.one_ne_zero, Nat.zero_ne_one, ax_psh_none, ax_psh_some, true_and, and_true, and_false, false_and, not_true_eq_false, not_false_eq_true, true_imp_iff, false_imp_iff, imp_self, or_true, true_or, or_false, false_or, and_self, ite_true, ite_false, if_true, if_false]
    exact key 0 (Nat.zero_le _) gi (fun _ _ _ _ => rfl) (fun c hc => absurd hc (Nat.not_lt_zero c))
  · intro i hi ih gi1 f1 f2
    rw [b_M_back_33]
    simp (disch := omega) only [b_M_back_40, hi, G_0_0 hG, G_0_1 hG, G_0_2 hG, G_0_3 hG, G_0_7 hG, G_0_10 hG, G_0_12 hG, G_0_13 hG, G_0_14 hG, G_0_15 hG, G_0_16 hG, G_0_17 hG, G_1_0 hG, G_1_2 hG, G_1_5 hG, G_2_4 hG, G_2_5 hG, G_3_5 hG, G_3_6 hG, G_3_7 hG, G_3_8 hG, G_3_9 hG, G_5_0 hG, G_5_1 hG, G_6_0 hG, G_6_1 hG, G_6_2 hG, G_6_9 hG, G_6_10 hG, G_6_11 hG, G_6_12 hG, G_6_13 hG, G_7_0 hG, G_7_5 hG, G_8_8 hG, G_8_9 hG, G_9_8 hG, G_9_9 hG, G_10_7 hG, G_10_8 hG, G_10_9 hG, G_10_10 hG, G_10_11 hG, G_11_0 hG, G_12_2 hG, G_12_3 hG, G_12_4 hG, G_12_5 hG, G_12_7 hG, G_12_8 hG, G_12_9 hG, G_12_12 hG, G_12_13 hG, G_12_14 hG, G_12_22 hG, G_12_23 hG, G_12_29 hG, G_12_30 hG, G_12_31 hG, G_12_37 hG, G_12_38 hG, G_12_39 hG, G_12_40 hG, G_12_41 hG, G_12_43 hG, G_12_46 hG, G_12_47 hG, G_12_48 hG, G_25 hG, G_26 hG, G_47 hG, G_58 hG, n32_add, n32_mul, n32_lt, n32_le, n32_eq, n32_clamp, n32_inT, n32_div, n32_rem, n32_m1, n32_m1', n32_m1lt, n32_ltm1, n32_10, n32_01, Nat.not_lt_zero, Nat.lt_irrefl, Nat.mul_zero, Nat.zero_mul, Nat.zero_add, Nat.add_zero, Nat.reduceEqDiff, Nat.one_ne_zero, Nat.zero_ne_one, ax_psh_none, ax_psh_some, true_and, and_true, and_false, false_and, not_true_eq_false, not_false_eq_true, true_imp_iff, false_imp_iff, imp_self, or_true, true_or, or_false, false_or, and_self, ite_true, ite_false, if_true, if_false]
    refine ih _ ?_ ?_
    · intro s a j z
      rw [wI_at, if_neg (by omega)]
      exact f1 s a j z
    · intro c hc
      rw [wI_at]
      by_cases z : c = i
      · rw [if_pos ⟨rfl, rfl, z⟩, z]
        exact f1 65 0 _ (by omega)
      · rw [if_neg (by omega)]
        exact f2 c (by omega)
  · intro gi1 f1 f2
    rw [b_M_back_33]
    simp (disch := omega) only [b_M_back_64, b_M_back_69, c_M_good, G_0_0 hG, G_0_1 hG, G_0_2 hG, G_0_3 hG, G_0_7 hG, G_0_10 hG, G_0_12 hG, G_0_13 hG, G_0_14 hG, G_0_15 hG, G_0_16 hG, G_0_17 hG, G_1_0 hG, G_1_2 hG, G_1_5 hG, G_2_4 hG, G_2_5 hG, G_3_5 hG, G_3_6 hG, G_3_7 hG, G_3_8 hG, G_3_9 hG, G_5_0 hG, G_5_1 hG, G_6_0 hG, G_6_1 hG, G_6_2 hG, G_6_9 hG, G_6_10 hG, G_6_11 hG, G_6_12 hG, G_6_13 hG, G_7_0 hG, G_7_5 hG, G_8_8 hG, G_8_9 hG, G_9_8 hG, G_9_9 hG, G_10_7 hG, G_10_8 hG, G_10_9 hG, G_10_10 hG, G_10_11 hG, G_11_0 hG, G_12_2 hG, G_12_3 hG, G_12_4 hG, G_12_5 hG, G_12_7 hG, G_12_8 hG, G_12_9 hG, G_12_12 hG, G_12_13 hG, G_12_14 hG, G_12_22 hG, G_12_23 hG, G_12_29 hG, G_12_30 hG, G_12_31 hG, G_12_37 hG, G_12_38 hG, G_12_39 hG, G_12_40 hG, G_12_41 hG, G_12_43 hG, G_12_46 hG, G_12_47 hG, G_12_48 hG, G_25 hG, G_26 hG, G_47 hG, G_58 hG, n32_add, n32_mul, n32_lt, n32_le, n32_eq, n32_clamp, n32_inT, n32_div, n32_rem, n32_m1, n32_m1', n32_m1lt, n32_ltm1, n32_10, n32_01, Nat.not_lt_zero, Nat.lt_irrefl, Nat.mul_zero, Nat.zero_mul, Nat.zero_add, Nat.add_zero, Nat.reduceEqDiff, Nat.one_ne_zero, Nat.zero_ne_one, ax_psh_none, ax_psh_some, true_and, and_true, and_false, false_and, not_true_eq_false, not_false_eq_true, true_imp_iff, false_imp_iff, imp_self, or_true, true_or, or_false, false_or, and_self, ite_true, ite_false, if_true, if_false]
    exact hq gi1 f1 f2
theorem Misc_big {gi gi1 gi2 : GI} {len v dd : Nat} {B : Nat → Nat} (h : Misc gi len v dd B) (f1 : ∀ s a j, s = 0 ∨ s = 12 ∨ s = 23 ∨ s = 63 ∨ s = 24 ∨ s = 85 ∨ s = 22 ∨ s = 68 → gi1 s a j = gi s a j) (f2 : ∀ s a j, s = 0 ∨ s = 12 ∨ s = 23 ∨ s = 63 ∨ s = 24 ∨ s = 85 ∨ s = 22 ∨ s = 68 → gi2 s a j = donC gi1 s a j) : Misc (donM gi2) len (v + 1) dd B := by
  have hM := Misc_dd (gi2 := donC gi1) (Misc_K h f1) (FrK_refl _)
  refine Misc_K hM (fun s a j q => ?_)
  rw [donM_at, donM_at, f2 s a j q, f2 12 0 1 (by omega)]
/-- references stand where books were made -/
theorem GOK_bk {g g' : AG} {r : Nat} (h : GOK g) (hg : ∀ s a j, ¬ nfS r s a → s ≠ 20 → g'.1 s a j = g.1 s a j) (h26 : ∀ j, 6 ≤ j → g'.1 26 r j = g.1 26 r j) (p0 : g'.1 1 r 0 = some (26, r)) (p2 : g'.1 1 r 2 = some (27, r)) (p5 : g'.1 1 r 5 = some (28, r)) (hT : ∀ k, k < 6 → g'.1 26 r k = some (2, 6 * r + k) ∧ g'.1 2 (6 * r + k) 4 = some (29, 6 * r + k) ∧ g'.1 2 (6 * r + k) 5 = some (30, 6 * r + k)) : GOK g' := by
  have u : ∀ s a j, s ≠ 1 → s ≠ 2 → ¬ (26 ≤ s ∧ s ≤ 30) → s ≠ 20 → g'.1 s a j = g.1 s a j := fun s a j q1 q2 q3 q4 => hg s a j (by unfold nfS; omega) q4
  have e1_0 : ∀ a, g'.1 1 a 0 = g.1 1 a 0 := fun a => by
    by_cases z : a = r
    · rw [z, p0, G_1_0 h r]
    · exact hg 1 a 0 (by unfold nfS; omega) (by decide)
  have e1_2 : ∀ a, g'.1 1 a 2 = g.1 1 a 2 := fun a => by
    by_cases z : a = r
    · rw [z, p2, G_1_2 h r]
    · exact hg 1 a 2 (by unfold nfS; omega) (by decide)
  have e1_5 : ∀ a, g'.1 1 a 5 = g.1 1 a 5 := fun a => by
    by_cases z : a = r
    · rw [z, p5, G_1_5 h r]
    · exact hg 1 a 5 (by unfold nfS; omega) (by decide)
  have e2_4 : ∀ a, g'.1 2 a 4 = g.1 2 a 4 := fun a => by
    by_cases z : 6 * r ≤ a ∧ a < 6 * r + 6
    · obtain ⟨k, rfl⟩ : ∃ k, a = 6 * r + k := ⟨a - 6 * r, by omega⟩
      rw [(hT k (by omega)).2.1, G_2_4 h]
    · exact hg 2 a 4 (by unfold nfS; omega) (by decide)
  have e2_5 : ∀ a, g'.1 2 a 5 = g.1 2 a 5 := fun a => by
    by_cases z : 6 * r ≤ a ∧ a < 6 * r + 6
    · obtain ⟨k, rfl⟩ : ∃ k, a = 6 * r + k := ⟨a - 6 * r, by omega⟩
      rw [(hT k (by omega)).2.2, G_2_5 h]
    · exact hg 2 a 5 (by unfold nfS; omega) (by decide)
  have e26 : ∀ a j, g'.1 26 a j = g.1 26 a j := fun a j => by
    by_cases z : a = r
    · rw [z]
      by_cases y : j < 6
      · rw [(hT j y).1, G_26 h]
      · exact h26 j (by omega)
    · exact hg 26 a j (by unfold nfS; omega) (by decide)
  unfold GOK at *
  have e0 : ∀ a j, g'.1 0 a j = g.1 0 a j := fun a j => u 0 a j (by decide) (by decide) (by decide) (by decide)
  have e3 : ∀ a j, g'.1 3 a j = g.1 3 a j := fun a j => u 3 a j (by decide) (by decide) (by decide) (by decide)
  have e5 : ∀ a j, g'.1 5 a j = g.1 5 a j := fun a j => u 5 a j (by decide) (by decide) (by decide) (by decide)
  have e6 : ∀ a j, g'.1 6 a j = g.1 6 a j := fun a j => u 6 a j (by decide) (by decide) (by decide) (by decide)
  have e7 : ∀ a j, g'.1 7 a j = g.1 7 a j := fun a j => u 7 a j (by decide) (by decide) (by decide) (by decide)
  have e8 : ∀ a j, g'.1 8 a j = g.1 8 a j := fun a j => u 8 a j (by decide) (by decide) (by decide) (by decide)
  have e9 : ∀ a j, g'.1 9 a j = g.1 9 a j := fun a j => u 9 a j (by decide) (by decide) (by decide) (by decide)
  have e10 : ∀ a j, g'.1 10 a j = g.1 10 a j := fun a j => u 10 a j (by decide) (by decide) (by decide) (by decide)
  have e11 : ∀ a j, g'.1 11 a j = g.1 11 a j := fun a j => u 11 a j (by decide) (by decide) (by decide) (by decide)
  have e12 : ∀ a j, g'.1 12 a j = g.1 12 a j := fun a j => u 12 a j (by decide) (by decide) (by decide) (by decide)
  have e25 : ∀ a j, g'.1 25 a j = g.1 25 a j := fun a j => u 25 a j (by decide) (by decide) (by decide) (by decide)
  have e47 : ∀ a j, g'.1 47 a j = g.1 47 a j := fun a j => u 47 a j (by decide) (by decide) (by decide) (by decide)
  have e58 : ∀ a j, g'.1 58 a j = g.1 58 a j := fun a j => u 58 a j (by decide) (by decide) (by decide) (by decide)
  simp only [e0, e1_0, e1_2, e1_5, e2_4, e2_5, e3, e5, e6, e7, e8, e9, e10, e11, e12, e25, e26, e47, e58]
  exact h
/-- image, once its books are there -/
theorem img_end {d n k r nb : Nat} {gi gi0 : GI} {g g0 : AG} {Ls : Nat → List PC} {Q : Option AV → Option AV → AH → Prop} (hC : Core n gi g Ls) (hlt : k < 2) (hr : 1 ≤ r) (hG0 : GOK g0) (hS0 : LawSlots g0) (h20 : g0.1 20 0 k = some (1, r))
    (H1 : ∀ s a, ¬ nfS r s a → (∀ j, gi0 s a j = gi s a j) ∧ g0.2.2.1 s a = g.2.2.1 s a) (H2 : ∀ s a j, ¬ nfS r s a → ¬ (s = 20 ∧ a = 0 ∧ j = k) → g0.1 s a j = g.1 s a j) (H4 : ∀ s, ¬ (s = 1 ∨ s = 2 ∨ (26 ≤ s ∧ s ≤ 30)) → g0.2.1 s = g.2.1 s)
    (H5 : BkC g0 nb) (hrn : r < nb) (H8 : g.2.1 1 ≤ nb) (H6 : g0.2.2.2.1 ≤ g.2.2.2.1 + 22 ∧ g0.2.2.2.2 ≤ g.2.2.2.2 + 826) (H7 : ∀ k', k' < 2 → k' ≠ k → ¬ g.1 20 0 k' = some (1, r))
    (hQ : ∀ v gi' g' Ls', Core (n + 1) gi' g' Ls' → Step gi gi' → ((gi' 0 0 9 = gi 0 0 9 + n32 1) ∨ Ls' = Ls) → Q (some (.inl v)) (some (.inl v)) (gi', g')) :
    Runs (d + 2) (m_S_image, 37, [some (.inr (.inr (some (0, 0)))), some (.inl (n32 k))], []) (gi0, g0) (fun rr h => ax_call (d + 3) m_M_image [.inr (.inr (some (12, 0))), .inl (n32 k)] h (fun r' h' => Q rr r' h')) := by
  rw [b_S_image_37, n32_clamp (by omega), h20]
  refine ⟨G_0_1 hG0 0, ⟨n32_in hlt (by omega), rfl⟩, G_0_0 hG0 0, ?_⟩
  refine c_Books_copy (p := r) (q := 0) hG0 hS0 (by omega) ?_
  intro gi1 g1 f1 fb f28 f2 f29 fg f27 f2g
  have hG1 : GOK g1 := GOK_of hG0 (fun s a j _ _ _ _ z => fg s a j (by omega))
  simp (disch := omega) only [b_S_image_50, b_S_image_55, c_S_done, n32_add, n32_mul, n32_lt, n32_le, n32_eq, n32_clamp, n32_inT, n32_div, n32_rem, n32_m1, n32_m1', n32_m1lt, n32_ltm1, n32_10, n32_01, Nat.not_lt_zero, Nat.lt_irrefl, Nat.mul_zero, Nat.zero_mul, Nat.zero_add, Nat.add_zero, Nat.reduceEqDiff, Nat.one_ne_zero, Nat.zero_ne_one, ax_psh_none, ax_psh_some, true_and, and_true, and_false, false_and, not_true_eq_false, not_false_eq_true, true_imp_iff, false_imp_iff, imp_self, or_true, true_or, or_false, false_or, and_self, ite_true, ite_false, if_true, if_false]
  refine c_M_image (d := d + 1) hG1 (by omega) ?_
  intro gi2 k1 k2
  obtain ⟨⟨-, hSt, hW, hSs, ⟨qq, hGN⟩, hR1, hR2⟩, hB, ⟨⟨hI0, hI1⟩, hI⟩, hP, ⟨s, s1, s2⟩, len, v, dd, B, hv, hM⟩ := hC
  have F1 : ∀ s a j, ¬ nfS r s a → gi1 s a j = gi s a j := fun s a j q => (f1 s a j (by unfold nfS at q; omega) (by unfold nfS at q; omega)).trans ((H1 s a q).1 j)
  have nf : ∀ s a, (s ≠ 1 ∧ s ≠ 2 ∧ ¬ (26 ≤ s ∧ s ≤ 30)) ∨ ((s = 1 ∨ (26 ≤ s ∧ s ≤ 28)) ∧ a ≠ r) ∨ ((s = 2 ∨ s = 29 ∨ s = 30) ∧ ¬ (6 * r ≤ a ∧ a < 6 * r + 6)) → ¬ nfS r s a := fun s a q => by unfold nfS; omega
  -- what is read at the end
  have a1 : ∀ s a j, s ≠ 0 → s ≠ 12 → s ≠ 65 → s ≠ 66 → donM (ax_wI gi2 66 0 k (n32 1)) s a j = gi1 s a j := fun s a j q0 q1 q2 q3 => by
    rw [donM_ne q1, wI_ne q3, k1 s a j (by omega), donC_ne q0]
  have a65 : ∀ j, ¬ (5605 * k ≤ j ∧ j < 5605 * k + 5605) → donM (ax_wI gi2 66 0 k (n32 1)) 65 0 j = gi 65 0 j := fun j q => by
    rw [donM_ne (by decide), wI_ne (by decide), k1 65 0 j (by omega), donC_ne (by decide)]
    exact F1 65 0 j (nf _ _ (by omega))
  have a65k : ∀ i, i < 5605 → donM (ax_wI gi2 66 0 k (n32 1)) 65 0 (5605 * k + i) = gi 64 0 i := fun i hi => by
    rw [donM_ne (by decide), wI_ne (by decide), k2 i hi, donC_ne (by decide)]
    exact F1 64 0 i (nf _ _ (by omega))
  have a66 : ∀ j, donM (ax_wI gi2 66 0 k (n32 1)) 66 0 j = if j = k then n32 1 else gi 66 0 j := fun j => by
    rw [donM_ne (by decide), wI_at]
    by_cases z : j = k
    · rw [if_pos ⟨rfl, rfl, z⟩, if_pos z]
    · rw [if_neg (by omega), if_neg z, k1 66 0 j (by omega), donC_ne (by decide)]
      exact F1 66 0 j (nf _ _ (by omega))
  have e9 : donM (ax_wI gi2 66 0 k (n32 1)) 0 0 9 = gi 0 0 9 + n32 1 := by
    rw [donM_ne (by decide), wI_ne (by decide), k1 0 0 9 (by omega), donC_at, if_pos ⟨rfl, rfl, rfl⟩, F1 0 0 9 (nf _ _ (by omega))]
  have mM : Misc (donM (ax_wI gi2 66 0 k (n32 1))) len (v + 1) dd B := by
    refine Misc_big (gi1 := gi1) hM (fun s a j q => F1 s a j (nf _ _ (by omega))) (fun s a j q => ?_)
    rw [wI_ne (by omega)]
    exact k1 s a j (by omega)
  have sr : SrSame gi (donM (ax_wI gi2 66 0 k (n32 1))) := fun s a j q => by
    have q' := srch_out q
    by_cases z : s = 12
    · subst z
      rw [donM_at, if_neg (by omega), if_neg (by omega), wI_ne (by decide), k1 12 a j (by omega), donC_ne (by decide)]
      exact F1 12 a j (nf _ _ (by omega))
    · rw [a1 s a j (by omega) z (by omega) (by omega)]
      exact F1 s a j (nf _ _ (by omega))
  generalize donM (ax_wI gi2 66 0 k (n32 1)) = gi3 at *
  have GR : ∀ s a j, ¬ nfS r s a → ¬ (s = 20 ∧ a = 0 ∧ j = k) → g1.1 s a j = g.1 s a j := fun s a j q z => (fg s a j (by unfold nfS at q; omega)).trans (H2 s a j q z)
  have GL : ∀ s a, ¬ nfS r s a → g1.2.2.1 s a = g.2.2.1 s a := fun s a q => by rw [f2g]; exact (H1 s a q).2
  have lawp : ∀ q l, q < g.2.1 4 → LawObj gi g q l → LawObj gi3 g1 q l := fun q l _ ho => LawObj_g ho (fun j => (a1 4 q j (by decide) (by decide) (by decide) (by decide)).trans (F1 4 q j (nf _ _ (by omega)))) (fun j => (a1 60 q j (by decide) (by decide) (by decide) (by decide)).trans (F1 60 q j (nf _ _ (by omega)))) (fun j => (a1 61 q j (by decide) (by decide) (by decide) (by decide)).trans (F1 61 q j (nf _ _ (by omega)))) (fun a j _ => (a1 62 a j (by decide) (by decide) (by decide) (by decide)).trans (F1 62 a j (nf _ _ (by omega)))) (fun j => GR 4 q j (nf _ _ (by omega)) (by omega)) (GL 60 q (nf _ _ (by omega))) (GL 61 q (nf _ _ (by omega))) (fun a _ => GL 62 a (nf _ _ (by omega)))
  have hle4 : g.2.1 4 ≤ g1.2.1 4 := by
    rw [f2g, H4 4 (by omega)]
    exact Nat.le_refl _
  have keep : ∀ s a j, s ≠ 0 → s ≠ 12 → s ≠ 65 → s ≠ 66 → ¬ nfS r s a → gi3 s a j = gi s a j := fun s a j q0 q1 q2 q3 q => (a1 s a j q0 q1 q2 q3).trans (F1 s a j q)
  have kp : ∀ s a j, (s = 100 ∨ s = 101 ∨ s = 103 ∨ s = 67 ∨ s = 3 ∨ s = 59 ∨ s = 7 ∨ s = 39 ∨ s = 64) → gi3 s a j = gi s a j := fun s a j q => keep s a j (by omega) (by omega) (by omega) (by omega) (nf _ _ (by omega))
  have g20 : ∀ j, j ≠ k → g1.1 20 0 j = g.1 20 0 j := fun j q => GR 20 0 j (nf _ _ (by omega)) (by omega)
  have g20k : g1.1 20 0 k = some (1, r) := (fg 20 0 k (by omega)).trans h20
  have n1 : g1.2.1 1 = nb := by
    rw [f2g]
    exact H5.1.1
  refine hQ _ gi3 g1 Ls ⟨⟨hG1, StrOK_of hSt (fun a j => kp 101 a j (by omega)) (fun a j => kp 103 a j (by omega)) (fun a j => GR 101 a j (nf _ _ (by omega)) (by omega)) (fun a => GL 103 a (nf _ _ (by omega))), fun j hj => (kp 67 0 j (by omega)).trans (hW j hj), ?_, ?_⟩, ?_, ⟨⟨fun r' l q => ?_, ⟨nb, by omega, ?_⟩, ?_⟩, fun k' hk' => ?_⟩, fun t ht => PaperInv_of (hP t ht) (fun j => kp 3 t j (by omega)) (fun a j => kp 59 a j (by omega)), ⟨s, by omega, Stamps_of s2 (kp 7 0 4 (by omega)) (fun j => kp 39 0 j (by omega))⟩, len, v + 1, dd, B, by omega, mM⟩ ⟨sr, Or.inr e9⟩ (Or.inl e9)
  · unfold StatOK at *
    rw [kp 100 1 0 (by omega), kp 100 1 1 (by omega), kp 100 1 2 (by omega), kp 100 1 3 (by omega), kp 100 2 0 (by omega), kp 100 2 1 (by omega), kp 100 2 2 (by omega), kp 100 2 3 (by omega)]
    exact hSs
  · refine ⟨⟨qq, ?_⟩, ?_, ?_⟩
    · unfold GN at *
      rw [f2g, H4 4 (by omega), H4 60 (by omega), H4 61 (by omega), H4 62 (by omega)]
      exact hGN
    · rw [f2g]
      omega
    · rw [f2g]
      omega
  · refine Books_cp hB (fun j hj => kp 64 0 j (by omega)) (fun j hj => keep 1 0 j (by omega) (by omega) (by omega) (by omega) (nf _ _ (by omega))) (fun j hj => keep 28 0 j (by omega) (by omega) (by omega) (by omega) (nf _ _ (by omega))) (fun t i ht hi => keep 2 _ i (by omega) (by omega) (by omega) (by omega) (nf _ _ (by omega))) (fun t c ht hc => ⟨keep 29 _ c (by omega) (by omega) (by omega) (by omega) (nf _ _ (by omega)), keep 30 _ c (by omega) (by omega) (by omega) (by omega) (nf _ _ (by omega))⟩) (fun l hl => GR 27 0 l (nf _ _ (by omega)) (by omega)) lawp hle4
  · by_cases z : r' = r
    · subst z
      rw [f27 l q]
      exact hS0 0 l q
    · rw [fg 27 r' l (by omega)]
      exact hS0 r' l q
  · unfold BkC at *
    rw [f2g]
    exact H5
  · intro r' y0 y1
    have cs : k = 0 ∨ k = 1 := by omega
    rcases cs with z | z
    · have e0 : g1.1 20 0 0 = some (1, r) := by rw [← g20k, z]
      rw [g20 1 (by omega)] at y1
      exact H7 1 (by omega) (by omega) (y1.trans (y0.symm.trans e0))
    · have e1 : g1.1 20 0 1 = some (1, r) := by rw [← g20k, z]
      rw [g20 0 (by omega)] at y0
      exact H7 0 (by omega) (by omega) (y0.trans (y1.symm.trans e1))
  · by_cases z : k' = k
    · subst z
      refine Or.inr ⟨?_, r, ⟨g20k, hr, by omega⟩, Ls, ?_⟩
      · rw [a66, if_pos rfl]
      · refine Books_cp hB (fun j hj => a65k j hj) (fun j hj => ?_) (fun j hj => ?_) (fun t i ht hi => ?_) (fun t c ht hc => ?_) (fun l hl => ?_) lawp hle4
        · rw [a1 1 _ j (by decide) (by decide) (by decide) (by decide), fb j hj]
          exact (H1 1 0 (nf _ _ (by omega))).1 j
        · rw [a1 28 _ j (by decide) (by decide) (by decide) (by decide), f28 j hj]
          exact (H1 28 0 (nf _ _ (by omega))).1 j
        · rw [a1 2 _ i (by decide) (by decide) (by decide) (by decide), f2 t i ht hi]
          exact (H1 2 _ (nf _ _ (by omega))).1 i
        · rw [a1 29 _ c (by decide) (by decide) (by decide) (by decide), a1 30 _ c (by decide) (by decide) (by decide) (by decide), (f29 t c ht hc).1, (f29 t c ht hc).2]
          exact ⟨(H1 29 _ (nf _ _ (by omega))).1 c, (H1 30 _ (nf _ _ (by omega))).1 c⟩
        · rw [f27 l hl]
          exact H2 27 0 l (nf _ _ (by omega)) (by omega)
    · refine ImOK_of (hI k' hk') (by rw [a66, if_neg z]) (g20 k' z) (by omega) (fun r' Ls' q1 q2 q3 hB' => ?_)
      have hne : r' ≠ r := fun e => H7 k' hk' z (by rw [← e]; exact q3)
      exact Books_cp hB' (fun j hj => a65 _ (by omega)) (fun j hj => keep 1 _ j (by omega) (by omega) (by omega) (by omega) (nf _ _ (by omega))) (fun j hj => keep 28 _ j (by omega) (by omega) (by omega) (by omega) (nf _ _ (by omega))) (fun t i ht hi => keep 2 _ i (by omega) (by omega) (by omega) (by omega) (nf _ _ (by omega))) (fun t c ht hc => ⟨keep 29 _ c (by omega) (by omega) (by omega) (by omega) (nf _ _ (by omega)), keep 30 _ c (by omega) (by omega) (by omega) (by omega) (nf _ _ (by omega))⟩) (fun l hl => GR 27 _ l (nf _ _ (by omega)) (by omega)) lawp hle4
theorem op_image (x : Int32) : Op m_S_image m_M_image [.inl x] := by
  intro D n gi g Ls Q hD hn hC hQ
  obtain ⟨d, rfl⟩ : ∃ d2, D = d2 + 3 := ⟨D - 3, by omega⟩
  have hG := hC.1.1
  rcases win_cases2 x 0 1 (by omega) (by omega) with ⟨k, -, hk, rfl⟩ | hw
  · have hlt : k < 2 := by omega
    obtain ⟨⟨nb, m1, hBk⟩, hdis⟩ := hC.2.2.1.1.2
    have hBk' := hBk
    obtain ⟨⟨c1, c26, c27, c28⟩, c2, c29, c30⟩ := hBk'
    rw [e_S_image]
    simp (disch := omega) only [b_S_image_0, b_S_image_6, c_S_within, win_T, n32_add, n32_mul, n32_lt, n32_le, n32_eq, n32_clamp, n32_inT, n32_div, n32_rem, n32_m1, n32_m1', n32_m1lt, n32_ltm1, n32_10, n32_01, Nat.not_lt_zero, Nat.lt_irrefl, Nat.mul_zero, Nat.zero_mul, Nat.zero_add, Nat.add_zero, Nat.reduceEqDiff, Nat.one_ne_zero, Nat.zero_ne_one, ax_psh_none, ax_psh_some, true_and, and_true, and_false, false_and, not_true_eq_false, not_false_eq_true, true_imp_iff, false_imp_iff, imp_self, or_true, true_or, or_false, false_or, and_self, ite_true, ite_false, if_true, if_false]
    rw [b_S_image_15, n32_clamp (by omega)]
    rcases hC.2.2.1.2 k hlt with ⟨i1, i2⟩ | ⟨i1, r, ⟨i2, i3, i4⟩, Ls2, iB⟩
    · refine ⟨G_0_1 hG 0, n32_in hlt (by omega), fun _ => ?_, fun z => absurd i2 z⟩
      rw [b_S_image_24]
      refine ⟨G_0_1 hG 0, ?_⟩
      refine NF_new (K := fun h => Runs _ _ h _) (NF_refl nb gi g) (by rw [c1]; exact Or.inl ⟨by omega, rfl⟩) (fun z => by omega) (fun gi1 g1 hN1 t1 o1 z1 a1 l1 => ?_)
      rw [b_S_image_32, c1]
      refine c_Books_init (d := d) (r := nb) (by rw [t1, if_pos rfl, c1]) (by rw [t1, if_neg (by decide), c26]) (by rw [t1, if_neg (by decide), c27]) (by rw [t1, if_neg (by decide), c28]) (by rw [t1, if_neg (by decide), c2]) (by rw [t1, if_neg (by decide), c29]) (by rw [t1, if_neg (by decide), c30]) ?_
      intro gi2 g2 hBM
      obtain ⟨hN2, ⟨u1, u26, u27, u28⟩, ⟨u2, u29, u30⟩, ⟨p0, p2, p5⟩, hT, hL, hc, hs⟩ := hBM
      rw [ax_psh_none, b_S_image_36, n32_clamp (by omega)]
      refine ⟨⟨n32_in hlt (by omega), Or.inr ⟨nb, rfl⟩⟩, ?_⟩
      have w : ∀ s a j, ¬ (s = 20 ∧ a = 0 ∧ j = k) → ax_wR g2.1 20 0 k (some (1, nb)) s a j = g2.1 s a j := fun s a j q => by rw [wR_at, if_neg q]
      have rr : ∀ s a j, ¬ nfS nb s a → g2.1 s a j = g.1 s a j := fun s a j q => (((hN2.1 s a q).1 j).2).trans (((hN1.1 s a q).1 j).2)
      have hG0 : GOK (ax_wR g2.1 20 0 k (some (1, nb)), g2.2) := GOK_bk (r := nb) hG (fun s a j q q2 => (w s a j (by omega)).trans (rr s a j q)) (fun j hj => (w 26 nb j (by omega)).trans ((hN2.2.1 j hj).trans (hN1.2.1 j hj))) ((w 1 nb 0 (by omega)).trans p0) ((w 1 nb 2 (by omega)).trans p2) ((w 1 nb 5 (by omega)).trans p5) (fun i hi => ⟨(w 26 nb i (by omega)).trans (hT i hi).1, (w 2 _ 4 (by omega)).trans (hT i hi).2.1, (w 2 _ 5 (by omega)).trans (hT i hi).2.2⟩)
      refine img_end (r := nb) (nb := nb + 1) hC hlt m1 hG0 (fun r' l q => ?_) (by show ax_wR g2.1 20 0 k (some (1, nb)) 20 0 k = _; rw [wR_at, if_pos ⟨rfl, rfl, rfl⟩]) (fun s a q => ⟨fun j => (((hN2.1 s a q).1 j).1).trans (((hN1.1 s a q).1 j).1), ((hN2.1 s a q).2).trans ((hN1.1 s a q).2)⟩) (fun s a j q z => (w s a j z).trans (rr s a j q)) (fun s q => (hN2.2.2 s q).trans (hN1.2.2 s q)) ⟨⟨u1, u26, u27, u28⟩, by show g2.2.1 2 = _; omega, by show g2.2.1 29 = _; omega, by show g2.2.1 30 = _; omega⟩ (by omega) (by omega) ⟨by show g2.2.2.2.1 ≤ _; omega, by show g2.2.2.2.2 ≤ _; omega⟩ (fun k' hk' hne e => ?_) hQ
      · show ax_wR g2.1 20 0 k (some (1, nb)) 27 r' l = none ∨ ∃ q, ax_wR g2.1 20 0 k (some (1, nb)) 27 r' l = some (4, q)
        rw [w 27 r' l (by omega)]
        by_cases z : r' = nb
        · rw [z]
          exact Or.inl (hL l q)
        · rw [rr 27 r' l (by unfold nfS; omega)]
          exact hC.2.2.1.1.1 r' l q
      · rcases hC.2.2.1.2 k' hk' with ⟨-, y⟩ | ⟨-, r2, ⟨y1, -, y3⟩, -⟩
        · rw [y] at e
          exact absurd e (by simp)
        · rw [y1] at e
          simp only [Option.some.injEq, Prod.mk.injEq, true_and] at e
          omega
    · refine ⟨G_0_1 hG 0, n32_in hlt (by omega), fun z => absurd z (by rw [i2]; simp), fun _ => ?_⟩
      refine img_end (r := r) (nb := nb) hC hlt i3 hG hC.2.2.1.1.1 i2 (fun s a _ => ⟨fun _ => rfl, rfl⟩) (fun s a j _ _ => rfl) (fun s _ => rfl) hBk (by omega) (by omega) ⟨by omega, by omega⟩ (fun k' hk' hne e => ?_) hQ
      have cs : (k = 0 ∧ k' = 1) ∨ (k = 1 ∧ k' = 0) := by omega
      rcases cs with ⟨rfl, rfl⟩ | ⟨rfl, rfl⟩
      · exact hdis r i2 e
      · exact hdis r e i2
  · simp (disch := omega) only [e_S_image, b_S_image_0, b_S_image_6, b_S_image_9, b_S_image_14, e_M_image, b_M_image_0, b_M_image_6, b_M_image_9, b_M_image_14, c_S_within, c_M_lies, hw, c_S_refuse0 _ _ _ _ hG, c_M_refuses0 _ _ _ _ hG, n32_add, n32_mul, n32_lt, n32_le, n32_eq, n32_clamp, n32_inT, n32_div, n32_rem, n32_m1, n32_m1', n32_m1lt, n32_ltm1, n32_10, n32_01, Nat.not_lt_zero, Nat.lt_irrefl, Nat.mul_zero, Nat.zero_mul, Nat.zero_add, Nat.add_zero, Nat.reduceEqDiff, Nat.one_ne_zero, Nat.zero_ne_one, ax_psh_none, ax_psh_some, true_and, and_true, and_false, false_and, not_true_eq_false, not_false_eq_true, true_imp_iff, false_imp_iff, imp_self, or_true, true_or, or_false, false_or, and_self, ite_true, ite_false, if_true, if_false]
    exact ref_end0 hC hQ (by omega)
theorem op_back (x : Int32) : Op m_S_back m_M_back [.inl x] := by
  intro D n gi g Ls Q hD hn hC hQ
  obtain ⟨d, rfl⟩ : ∃ d2, D = d2 + 3 := ⟨D - 3, by omega⟩
  have hG := hC.1.1
  rcases win_cases2 x 0 1 (by omega) (by omega) with ⟨k, -, hk, rfl⟩ | hw
  · have hlt : k < 2 := by omega
    rcases hC.2.2.1.2 k hlt with ⟨i2, e20⟩ | ⟨i2, r, ⟨e20, hr1, hr2⟩, Ls2, iB⟩
    · have e66 : refC gi (-2) 1 66 0 k = n32 0 := (refC_ne (by decide) (by decide) 0 k).trans i2
      rw [e_S_back]
      simp (disch := omega) only [b_S_back_0, b_S_back_6, c_S_within, win_T, n32_add, n32_mul, n32_lt, n32_le, n32_eq, n32_clamp, n32_inT, n32_div, n32_rem, n32_m1, n32_m1', n32_m1lt, n32_ltm1, n32_10, n32_01, Nat.not_lt_zero, Nat.lt_irrefl, Nat.mul_zero, Nat.zero_mul, Nat.zero_add, Nat.add_zero, Nat.reduceEqDiff, Nat.one_ne_zero, Nat.zero_ne_one, ax_psh_none, ax_psh_some, true_and, and_true, and_false, false_and, not_true_eq_false, not_false_eq_true, true_imp_iff, false_imp_iff, imp_self, or_true, true_or, or_false, false_or, and_self, ite_true, ite_false, if_true, if_false]
      rw [b_S_back_15, n32_clamp (by omega)]
      refine ⟨G_0_1 hG 0, n32_in hlt (by omega), fun _ => ?_, fun z => absurd e20 z⟩
      simp (disch := omega) only [b_S_back_24, b_S_back_30, c_S_refuse1 _ _ _ _ hG, n32_add, n32_mul, n32_lt, n32_le, n32_eq, n32_clamp, n32_inT, n32_div, n32_rem, n32_m1, n32_m1', n32_m1lt, n32_ltm1, n32_10, n32_01, Nat.not_lt_zero, Nat.lt_irrefl, Nat.mul_zero, Nat.zero_mul, Nat.zero_add, Nat.add_zero, Nat.reduceEqDiff, Nat.one_ne_zero, Nat.zero_ne_one, ax_psh_none, ax_psh_some, true_and, and_true, and_false, false_and, not_true_eq_false, not_false_eq_true, true_imp_iff, false_imp_iff, imp_self, or_true, true_or, or_false, false_or, and_self, ite_true, ite_false, if_true, if_false]
      simp (disch := omega) only [e_M_back, b_M_back_0, b_M_back_6, b_M_back_15, b_M_back_24, b_M_back_30, c_M_lies, win_T, e66, c_M_refuses1 _ _ _ _ hG, G_0_0 hG, G_0_1 hG, G_0_2 hG, G_0_3 hG, G_0_7 hG, G_0_10 hG, G_0_12 hG, G_0_13 hG, G_0_14 hG, G_0_15 hG, G_0_16 hG, G_0_17 hG, G_1_0 hG, G_1_2 hG, G_1_5 hG, G_2_4 hG, G_2_5 hG, G_3_5 hG, G_3_6 hG, G_3_7 hG, G_3_8 hG, G_3_9 hG, G_5_0 hG, G_5_1 hG, G_6_0 hG, G_6_1 hG, G_6_2 hG, G_6_9 hG, G_6_10 hG, G_6_11 hG, G_6_12 hG, G_6_13 hG, G_7_0 hG, G_7_5 hG, G_8_8 hG, G_8_9 hG, G_9_8 hG, G_9_9 hG, G_10_7 hG, G_10_8 hG, G_10_9 hG, G_10_10 hG, G_10_11 hG, G_11_0 hG, G_12_2 hG, G_12_3 hG, G_12_4 hG, G_12_5 hG, G_12_7 hG, G_12_8 hG, G_12_9 hG, G_12_12 hG, G_12_13 hG, G_12_14 hG, G_12_22 hG, G_12_23 hG, G_12_29 hG, G_12_30 hG, G_12_31 hG, G_12_37 hG, G_12_38 hG, G_12_39 hG, G_12_40 hG, G_12_41 hG, G_12_43 hG, G_12_46 hG, G_12_47 hG, G_12_48 hG, G_25 hG, G_26 hG, G_47 hG, G_58 hG, n32_add, n32_mul, n32_lt, n32_le, n32_eq, n32_clamp, n32_inT, n32_div, n32_rem, n32_m1, n32_m1', n32_m1lt, n32_ltm1, n32_10, n32_01, Nat.not_lt_zero, Nat.lt_irrefl, Nat.mul_zero, Nat.zero_mul, Nat.zero_add, Nat.add_zero, Nat.reduceEqDiff, Nat.one_ne_zero, Nat.zero_ne_one, ax_psh_none, ax_psh_some, true_and, and_true, and_false, false_and, not_true_eq_false, not_false_eq_true, true_imp_iff, false_imp_iff, imp_self, or_true, true_or, or_false, false_or, and_self, ite_true, ite_false, if_true, if_false]
      exact ref_end0 hC hQ (by omega)
    · rw [e_S_back]
      simp (disch := omega) only [b_S_back_0, b_S_back_6, c_S_within, win_T, n32_add, n32_mul, n32_lt, n32_le, n32_eq, n32_clamp, n32_inT, n32_div, n32_rem, n32_m1, n32_m1', n32_m1lt, n32_ltm1, n32_10, n32_01, Nat.not_lt_zero, Nat.lt_irrefl, Nat.mul_zero, Nat.zero_mul, Nat.zero_add, Nat.add_zero, Nat.reduceEqDiff, Nat.one_ne_zero, Nat.zero_ne_one, ax_psh_none, ax_psh_some, true_and, and_true, and_false, false_and, not_true_eq_false, not_false_eq_true, true_imp_iff, false_imp_iff, imp_self, or_true, true_or, or_false, false_or, and_self, ite_true, ite_false, if_true, if_false]
      rw [b_S_back_15, n32_clamp (by omega)]
      refine ⟨G_0_1 hG 0, n32_in hlt (by omega), fun z => absurd z (by rw [e20]; simp), fun _ => ?_⟩
      rw [b_S_back_31, n32_clamp (by omega), e20]
      refine ⟨G_0_0 hG 0, G_0_1 hG 0, ⟨n32_in hlt (by omega), rfl⟩, ?_⟩
      refine c_Books_copy (p := 0) (q := r) hG hC.2.2.1.1.1 (by omega) ?_
      intro gi1 g1 f1 fb f28 f2 f29 fg f27 f2g
      have hG1 : GOK g1 := GOK_of hG (fun s a j _ _ _ _ z => fg s a j (by omega))
      simp (disch := omega) only [b_S_back_44, b_S_back_49, c_S_done, ax_psh_none, ax_psh_some, true_and, and_true, and_false, false_and, not_true_eq_false, not_false_eq_true, true_imp_iff, false_imp_iff, imp_self, or_true, true_or, or_false, false_or, and_self, ite_true, ite_false, if_true, if_false]
      have e66 : donC gi1 66 0 k = n32 1 := (donC_ne (by decide) 0 k).trans ((f1 66 0 k (by omega) (by omega)).trans i2)
      refine c_M_back (d := d + 1) hG1 hlt e66 ?_
      intro gi2 k1 k2
      obtain ⟨⟨-, hSt, hW, hSs, ⟨qq, hGN⟩, hR1, hR2⟩, hB, ⟨⟨hI0, hI1⟩, hI⟩, hP, ⟨s, s1, s2⟩, len, v, dd, B, hv, hM⟩ := hC
      have a1 : ∀ s a j, s ≠ 0 → s ≠ 12 → s ≠ 64 → donM gi2 s a j = gi1 s a j := fun s a j q0 q1 q2 => by
        rw [donM_ne q1, k1 s a j (by omega), donC_ne q0]
      have a64 : ∀ i, i < 5605 → donM gi2 64 0 i = gi 65 0 (5605 * k + i) := fun i hi => by
        rw [donM_ne (by decide), k2 i hi, donC_ne (by decide)]
        exact f1 65 0 _ (by omega) (by omega)
      have e9 : donM gi2 0 0 9 = gi 0 0 9 + n32 1 := by
        rw [donM_ne (by decide), k1 0 0 9 (by omega), donC_at, if_pos ⟨rfl, rfl, rfl⟩, f1 0 0 9 (by omega) (by omega)]
      have mM : Misc (donM gi2) len (v + 1) dd B := by
        refine Misc_big (gi1 := gi1) hM (fun s a j q => ?_) (fun s a j q => ?_)
        · exact f1 s a j (by omega) (by omega)
        · exact k1 s a j (by omega)
      have sr : SrSame gi (donM gi2) := fun s a j q => by
        have q' := srch_out q
        by_cases z : s = 12
        · subst z
          rw [donM_at, if_neg (by omega), if_neg (by omega), k1 12 a j (by omega), donC_ne (by decide)]
          exact f1 12 a j (by omega) (by omega)
        · rw [a1 s a j (by omega) z (by omega)]
          exact f1 s a j (by omega) (by omega)
      generalize donM gi2 = gi3 at *
      have lawp : ∀ q l, q < g.2.1 4 → LawObj gi g q l → LawObj gi3 g1 q l := fun q l _ ho => LawObj_g ho (fun j => (a1 4 q j (by decide) (by decide) (by decide)).trans (f1 4 q j (by omega) (by omega))) (fun j => (a1 60 q j (by decide) (by decide) (by decide)).trans (f1 60 q j (by omega) (by omega))) (fun j => (a1 61 q j (by decide) (by decide) (by decide)).trans (f1 61 q j (by omega) (by omega))) (fun a j _ => (a1 62 a j (by decide) (by decide) (by decide)).trans (f1 62 a j (by omega) (by omega))) (fun j => fg 4 q j (by omega)) (by rw [f2g]) (by rw [f2g]) (fun a _ => by rw [f2g])
      have keep : ∀ s a j, (s = 100 ∨ s = 101 ∨ s = 103 ∨ s = 67 ∨ s = 3 ∨ s = 59 ∨ s = 7 ∨ s = 39 ∨ s = 65 ∨ s = 66 ∨ ((s = 1 ∨ s = 28) ∧ a ≠ 0) ∨ ((s = 2 ∨ s = 29 ∨ s = 30) ∧ 6 ≤ a)) → gi3 s a j = gi s a j := fun s a j q => (a1 s a j (by omega) (by omega) (by omega)).trans (f1 s a j (by omega) (by omega))
      refine hQ _ gi3 g1 Ls2 ⟨⟨hG1, StrOK_of hSt (fun a j => keep 101 a j (by omega)) (fun a j => keep 103 a j (by omega)) (fun a j => fg 101 a j (by omega)) (fun a => by rw [f2g]), fun j hj => (keep 67 0 j (by omega)).trans (hW j hj), ?_, ?_⟩, ?_, ⟨⟨fun r' l q => ?_, BkS_of hI1 (fun j => fg 20 0 j (by omega)) (fun s _ => by rw [f2g])⟩, fun k' hk' => ?_⟩, fun t ht => PaperInv_of (hP t ht) (fun j => keep 3 t j (by omega)) (fun a j => keep 59 a j (by omega)), ⟨s, by omega, Stamps_of s2 (keep 7 0 4 (by omega)) (fun j => keep 39 0 j (by omega))⟩, len, v + 1, dd, B, by omega, mM⟩ ⟨sr, Or.inr e9⟩ (Or.inl e9)
      · unfold StatOK at *
        rw [keep 100 1 0 (by omega), keep 100 1 1 (by omega), keep 100 1 2 (by omega), keep 100 1 3 (by omega), keep 100 2 0 (by omega), keep 100 2 1 (by omega), keep 100 2 2 (by omega), keep 100 2 3 (by omega)]
        exact hSs
      · refine ⟨⟨qq, ?_⟩, ?_, ?_⟩
        · unfold GN at *
          rw [f2g]
          exact hGN
        · rw [f2g]
          omega
        · rw [f2g]
          omega
      · refine Books_cp iB (fun j hj => a64 j hj) (fun j hj => ?_) (fun j hj => ?_) (fun t i ht hi => ?_) (fun t c ht hc => ?_) (fun l hl => f27 l hl) lawp (by rw [f2g]; exact Nat.le_refl _)
        · rw [a1 1 _ j (by decide) (by decide) (by decide)]
          exact fb j hj
        · rw [a1 28 _ j (by decide) (by decide) (by decide)]
          exact f28 j hj
        · rw [a1 2 _ i (by decide) (by decide) (by decide)]
          exact f2 t i ht hi
        · rw [a1 29 _ c (by decide) (by decide) (by decide), a1 30 _ c (by decide) (by decide) (by decide)]
          exact f29 t c ht hc
      · by_cases z : r' = 0
        · subst z
          rw [f27 l q]
          exact hI0 r l q
        · rw [fg 27 r' l (by omega)]
          exact hI0 r' l q
      · refine ImOK_of (hI k' hk') (keep 66 0 k' (by omega)) (fg 20 0 k' (by omega)) (by rw [f2g]; exact Nat.le_refl _) (fun r2 Ls3 q1 q2 _ q3 => ?_)
        exact Books_cp q3 (fun j hj => keep 65 0 _ (by omega)) (fun j hj => keep 1 _ j (by omega)) (fun j hj => keep 28 _ j (by omega)) (fun t i ht hi => keep 2 _ i (by omega)) (fun t c ht hc => ⟨keep 29 _ c (by omega), keep 30 _ c (by omega)⟩) (fun l hl => fg 27 _ l (by omega)) lawp (by rw [f2g]; exact Nat.le_refl _)
  · simp (disch := omega) only [e_S_back, b_S_back_0, b_S_back_6, b_S_back_9, b_S_back_14, e_M_back, b_M_back_0, b_M_back_6, b_M_back_9, b_M_back_14, c_S_within, c_M_lies, hw, c_S_refuse0 _ _ _ _ hG, c_M_refuses0 _ _ _ _ hG, n32_add, n32_mul, n32_lt, n32_le, n32_eq, n32_clamp, n32_inT, n32_div, n32_rem, n32_m1, n32_m1', n32_m1lt, n32_ltm1, n32_10, n32_01, Nat.not_lt_zero, Nat.lt_irrefl, Nat.mul_zero, Nat.zero_mul, Nat.zero_add, Nat.add_zero, Nat.reduceEqDiff, Nat.one_ne_zero, Nat.zero_ne_one, ax_psh_none, ax_psh_some, true_and, and_true, and_false, false_and, not_true_eq_false, not_false_eq_true, true_imp_iff, false_imp_iff, imp_self, or_true, true_or, or_false, false_or, and_self, ite_true, ite_false, if_true, if_false]
    exact ref_end0 hC hQ (by omega)
