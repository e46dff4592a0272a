/-! the class's papers -/
def wayF (W T f : Nat) : Nat := if isF W T f = true then f else 6
def PapW (gi : GI) (t W T : Nat) : Prop := gi 3 t 0 = n32 W ∧ gi 3 t 1 = n32 T ∧ gi 3 t 4 = n32 (likes W T) ∧ (1 ≤ W ∧ W ≤ 8) ∧ (1 ≤ T ∧ T ≤ 8) ∧ ∀ f, f < 8 → ∀ c, c < W * T → gi 59 (8 * t + f) c = n32 (tk W T (wayF W T f) c)
def PaperInv (gi : GI) (t : Nat) : Prop := (gi 3 t 0 = n32 0 ∧ gi 3 t 1 = n32 0) ∨ ∃ W T, PapW gi t W T
def BrdOK (W T : Nat) (b : Nat → Nat) : Prop := ∀ c, c < W * T → b c < 10
def Pap (gi : GI) (t W T O : Nat) (b : Nat → Nat) : Prop := PapW gi t W T ∧ gi 3 t 2 = n32 O ∧ gi 3 t 3 = n32 (ptsF (W * T) b) ∧ (∀ c, c < 64 → gi 54 t c = n32 (b c)) ∧ BrdOK W T b ∧ (∀ l, l < likes W T → gi 55 t l = n32 (offF W T b l)) ∧ ∀ p, p < 10 → gi 56 t p = n32 (cntF (W * T) b p)
/-- only paper t is touched -/
def OnlyP (t : Nat) (gi gi' : GI) : Prop := ∀ s a j, ¬ (s = 3 ∧ a = t) → ¬ ((s = 54 ∨ s = 55 ∨ s = 56 ∨ s = 57) ∧ a = t) → ¬ (s = 59 ∧ 8 * t ≤ a ∧ a < 8 * t + 8) → gi' s a j = gi s a j
theorem OnlyP_refl (t : Nat) (gi : GI) : OnlyP t gi gi := fun _ _ _ _ _ _ => rfl
theorem OnlyP_trans {t : Nat} {a b c : GI} (h1 : OnlyP t a b) (h2 : OnlyP t b c) : OnlyP t a c := fun s i j q1 q2 q3 => (h2 s i j q1 q2 q3).trans (h1 s i j q1 q2 q3)
theorem OnlyP_wI {t s j : Nat} {gi gi' : GI} {v : Int32} (h : OnlyP t gi gi') (hs : s = 3 ∨ s = 54 ∨ s = 55 ∨ s = 56 ∨ s = 57) : OnlyP t gi (ax_wI gi' s t j v) := by
  intro s' a j' q1 q2 q3
  rw [wI_at, if_neg (by omega)]
  exact h s' a j' q1 q2 q3
theorem likes_36 (W T : Nat) : likes W T = 6 ∨ likes W T = 3 := by
  unfold likes
  split
  · exact Or.inl rfl
  · exact Or.inr rfl
theorem c_takenTo (d : Nat) (gi : GI) (g : AG) (Q : Option AV → AH → Prop) {W T f x y : Nat} (hW : W ≤ 8) (hT : T ≤ 8) (hx : x < W) (hy : y < T) (hf : f < 8) : ax_call (d + 1) m_S_takenTo [.inl (n32 f), .inl (n32 x), .inl (n32 y), .inl (n32 W), .inl (n32 T)] (gi, g) Q = Q (some (.inl (n32 (tk W T f (y * W + x))))) (gi, g) := by
  obtain ⟨e1, e2⟩ := tk_xy (W := W) (x := x) (y := y) hx
  have x5 : n32 W - n32 1 - n32 x = n32 (W - 1 - x) := by rw [n32_sub (by omega), n32_sub (by omega)]
  have x6 : n32 T - n32 1 - n32 y = n32 (T - 1 - y) := by rw [n32_sub (by omega), n32_sub (by omega)]
  rw [e_S_takenTo, b_S_takenTo_0, x5, x6]
  have cs : f = 0 ∨ f = 1 ∨ f = 2 ∨ f = 3 ∨ f = 4 ∨ f = 5 ∨ f = 6 ∨ f = 7 := by omega
  rcases cs with rfl | rfl | rfl | rfl | rfl | rfl | rfl | rfl
  · rw [show ax_tsw 2 (n32 0) = 64 by decide, b_S_takenTo_64]
    simp only [n32_mul, n32_add, tk, e1, e2]
  · rw [show ax_tsw 2 (n32 1) = 71 by decide, b_S_takenTo_71]
    simp only [n32_mul, n32_add, tk, e1, e2]
  · rw [show ax_tsw 2 (n32 2) = 78 by decide, b_S_takenTo_78]
    simp only [n32_mul, n32_add, tk, e1, e2]
  · rw [show ax_tsw 2 (n32 3) = 86 by decide, b_S_takenTo_86]
    simp only [n32_mul, n32_add, tk, e1, e2]
  · rw [show ax_tsw 2 (n32 4) = 92 by decide, b_S_takenTo_92]
    simp only [n32_mul, n32_add, tk, e1, e2]
  · rw [show ax_tsw 2 (n32 5) = 100 by decide, b_S_takenTo_100]
    simp only [n32_mul, n32_add, tk, e1, e2]
  · rw [show ax_tsw 2 (n32 6) = 114 by decide, b_S_takenTo_114]
    simp only [n32_mul, n32_add, tk]
  · rw [show ax_tsw 2 (n32 7) = 107 by decide, b_S_takenTo_107]
    simp only [n32_mul, n32_add, tk, e1, e2]
theorem c_hasForm (d : Nat) (gi : GI) (g : AG) (Q : Option AV → AH → Prop) {t W T : Nat} (v : Int32) (hw : gi 3 t 0 = n32 W) (ht : gi 3 t 1 = n32 T) (hl : gi 3 t 4 = n32 (likes W T)) (hW : W ≤ 8) (hT : T ≤ 8) : ax_call (d + 2) m_Paper_hasForm [.inr (.inr (some (3, t))), .inl v] (gi, g) Q = Q (some (.inl (if v = n32 6 ∨ ¬ win v (n32 0) (n32 (likes W T) - n32 1) = n32 0 ∨ (v = n32 7 ∧ W = T) then n32 1 else n32 0))) (gi, g) := by
  by_cases h6 : v = n32 6
  · rw [if_pos (Or.inl h6)]
    simp only [e_Paper_hasForm, b_Paper_hasForm_0, b_Paper_hasForm_6, b_Paper_hasForm_17, b_Paper_hasForm_20, b_Paper_hasForm_26, b_Paper_hasForm_37, b_Paper_hasForm_41, b_Paper_hasForm_42, h6, ax_psh_none, ax_psh_some, true_and, and_true, and_false, false_and, not_true_eq_false, not_false_eq_true, true_imp_iff, false_imp_iff, imp_self, or_true, true_or, or_false, false_or, and_self, ite_true, ite_false, if_true, if_false]
  · by_cases hw2 : win v (n32 0) (n32 (likes W T) - n32 1) = n32 0
    · by_cases h7 : v = n32 7
      · by_cases hWT : W = T
        · rw [if_pos (Or.inr (Or.inr ⟨h7, hWT⟩))]
          subst hWT
          simp (disch := omega) only [e_Paper_hasForm, b_Paper_hasForm_0, b_Paper_hasForm_6, b_Paper_hasForm_17, b_Paper_hasForm_20, b_Paper_hasForm_26, b_Paper_hasForm_37, b_Paper_hasForm_41, b_Paper_hasForm_42, c_S_within, h6, hl, hw2, h7, hw, ht, ax_psh_none, ax_psh_some, true_and, and_true, and_false, false_and, not_true_eq_false, not_false_eq_true, true_imp_iff, false_imp_iff, imp_self, or_true, true_or, or_false, false_or, and_self, ite_true, ite_false, if_true, if_false]
          simp only [h7] at h6 hw2
          simp (disch := omega) only [hw2, b_Paper_hasForm_0, b_Paper_hasForm_6, b_Paper_hasForm_17, b_Paper_hasForm_20, b_Paper_hasForm_26, b_Paper_hasForm_37, b_Paper_hasForm_41, b_Paper_hasForm_42, hw, ht, n32_add, n32_mul, n32_lt, n32_le, n32_eq, n32_clamp, n32_inT, n32_div, n32_rem, n32_m1, n32_m1', n32_m1lt, n32_ltm1, n32_10, n32_01, Nat.not_lt_zero, Nat.lt_irrefl, Nat.mul_zero, Nat.zero_mul, Nat.zero_add, Nat.add_zero, Nat.reduceEqDiff, Nat.one_ne_zero, Nat.zero_ne_one, ax_psh_none, ax_psh_some, true_and, and_true, and_false, false_and, not_true_eq_false, not_false_eq_true, true_imp_iff, false_imp_iff, imp_self, or_true, true_or, or_false, false_or, and_self, ite_true, ite_false, if_true, if_false]
        · rw [if_neg (by rintro (z | z | z); exact h6 z; exact z hw2; exact hWT z.2)]
          simp only [h7] at h6 hw2
          simp (disch := omega) only [e_Paper_hasForm, b_Paper_hasForm_0, b_Paper_hasForm_6, b_Paper_hasForm_17, b_Paper_hasForm_20, b_Paper_hasForm_26, b_Paper_hasForm_37, b_Paper_hasForm_41, b_Paper_hasForm_42, c_S_within, h7, hl, hw2, hw, ht, hWT, n32_add, n32_mul, n32_lt, n32_le, n32_eq, n32_clamp, n32_inT, n32_div, n32_rem, n32_m1, n32_m1', n32_m1lt, n32_ltm1, n32_10, n32_01, Nat.not_lt_zero, Nat.lt_irrefl, Nat.mul_zero, Nat.zero_mul, Nat.zero_add, Nat.add_zero, Nat.reduceEqDiff, Nat.one_ne_zero, Nat.zero_ne_one, ax_psh_none, ax_psh_some, true_and, and_true, and_false, false_and, not_true_eq_false, not_false_eq_true, true_imp_iff, false_imp_iff, imp_self, or_true, true_or, or_false, false_or, and_self, ite_true, ite_false, if_true, if_false]
      · rw [if_neg (by rintro (z | z | z); exact h6 z; exact z hw2; exact h7 z.1)]
        simp only [e_Paper_hasForm, b_Paper_hasForm_0, b_Paper_hasForm_6, b_Paper_hasForm_17, b_Paper_hasForm_20, b_Paper_hasForm_26, b_Paper_hasForm_37, b_Paper_hasForm_41, b_Paper_hasForm_42, c_S_within, h6, hl, hw2, h7, ax_psh_none, ax_psh_some, true_and, and_true, and_false, false_and, not_true_eq_false, not_false_eq_true, true_imp_iff, false_imp_iff, imp_self, or_true, true_or, or_false, false_or, and_self, ite_true, ite_false, if_true, if_false]
    · rw [if_pos (Or.inr (Or.inl hw2))]
      simp only [e_Paper_hasForm, b_Paper_hasForm_0, b_Paper_hasForm_6, b_Paper_hasForm_17, b_Paper_hasForm_20, b_Paper_hasForm_26, b_Paper_hasForm_37, b_Paper_hasForm_41, b_Paper_hasForm_42, c_S_within, h6, hl, hw2, ax_psh_none, ax_psh_some, true_and, and_true, and_false, false_and, not_true_eq_false, not_false_eq_true, true_imp_iff, false_imp_iff, imp_self, or_true, true_or, or_false, false_or, and_self, ite_true, ite_false, if_true, if_false]
theorem hasF_iff {W T f : Nat} (hf : f < 8) : (n32 f = n32 6 ∨ ¬ win (n32 f) (n32 0) (n32 (likes W T) - n32 1) = n32 0 ∨ (n32 f = n32 7 ∧ W = T)) ↔ isF W T f = true := by
  have hl := likes_36 W T
  have e1 : (n32 f = n32 6) = (f = 6) := n32_eq (by omega) (by omega)
  have e2 : (n32 f = n32 7) = (f = 7) := n32_eq (by omega) (by omega)
  have e3 : (¬ win (n32 f) (n32 0) (n32 (likes W T) - n32 1) = n32 0) ↔ f < likes W T := by
    constructor
    · intro h
      obtain ⟨k, hk, e⟩ := win_sub (by omega) h
      rw [n32_eq (by omega) (by omega)] at e
      omega
    · intro h
      exact win_subin h (by omega)
  rw [e1, e2, e3]
  unfold isF likes
  by_cases h : W = T
  · simp [h]
    omega
  · simp [h]
    omega
theorem c_hasForm_n (d : Nat) (gi : GI) (g : AG) (Q : Option AV → AH → Prop) {t W T f : Nat} (hf : f < 8) (hw : gi 3 t 0 = n32 W) (ht : gi 3 t 1 = n32 T) (hl : gi 3 t 4 = n32 (likes W T)) (hW : W ≤ 8) (hT : T ≤ 8) : ax_call (d + 2) m_Paper_hasForm [.inr (.inr (some (3, t))), .inl (n32 f)] (gi, g) Q = Q (some (.inl (b32 (isF W T f)))) (gi, g) := by
  rw [c_hasForm _ _ _ _ _ hw ht hl hW hT]
  cases h : isF W T f with
  | true =>
    rw [if_pos ((hasF_iff hf).mpr h)]
    rfl
  | false =>
    rw [if_neg (fun z => by rw [(hasF_iff hf).mp z] at h; exact absurd h (by decide))]
    rfl
theorem c_drawWays {d t W T : Nat} {gi : GI} {g : AG} {Q : Option AV → AH → Prop} (hG : GOK g) (ht6 : t < 6) (hw : gi 3 t 0 = n32 W) (ht : gi 3 t 1 = n32 T) (hl : gi 3 t 4 = n32 (likes W T)) (hW : 1 ≤ W ∧ W ≤ 8) (hT : 1 ≤ T ∧ T ≤ 8)
    (hq : ∀ gi', (∀ s a j, ¬ (s = 59 ∧ 8 * t ≤ a ∧ a < 8 * t + 8) → gi' s a j = gi s a j) → (∀ f, f < 8 → ∀ c, c < W * T → gi' 59 (8 * t + f) c = n32 (tk W T (wayF W T f) c)) → Q none (gi', g)) :
    ax_call (d + 3) m_Paper_drawWays [.inr (.inr (some (3, t)))] (gi, g) Q := by
  have h64 := wt64 hW.2 hT.2
  -- the state within
  have keyF := loop_up (n := 8) (P := fun f => ∀ (gi1 : GI) o2 o3 o4, (∀ s a j, ¬ (s = 59 ∧ 8 * t ≤ a ∧ a < 8 * t + 8) → gi1 s a j = gi s a j) → (∀ f', f' < f → ∀ c, c < W * T → gi1 59 (8 * t + f') c = n32 (tk W T (wayF W T f') c)) → Runs (d + 2) (m_Paper_drawWays, 2, [some (.inr (.inr (some (3, t)))), some (.inl (n32 f)), o2, o3, o4], []) (gi1, g) Q) ?_ ?_
  · rw [e_Paper_drawWays, b_Paper_drawWays_0]
    exact keyF 0 (by omega) gi _ _ _ (fun _ _ _ _ => rfl) (fun f' hf' => absurd hf' (Nat.not_lt_zero f'))
  · intro f hf ihF gi1 o2 o3 o4 hfr hdone
    have wf : wayF W T f < 8 := by unfold wayF; split <;> omega
    have keyY := loop_up (n := T) (P := fun y => ∀ (gi2 : GI) o4, (∀ s a j, ¬ (s = 59 ∧ 8 * t ≤ a ∧ a < 8 * t + 8) → gi2 s a j = gi s a j) → (∀ f', f' < f → ∀ c, c < W * T → gi2 59 (8 * t + f') c = n32 (tk W T (wayF W T f') c)) → (∀ c, c < y * W → gi2 59 (8 * t + f) c = n32 (tk W T (wayF W T f) c)) → Runs (d + 2) (m_Paper_drawWays, 25, [some (.inr (.inr (some (3, t)))), some (.inl (n32 f)), some (.inl (n32 (wayF W T f))), some (.inl (n32 y)), o4], []) (gi2, g) Q) ?_ ?_
    · have e1 : ∀ s j, s ≠ 59 → gi1 s t j = gi s t j := fun s j h => hfr s t j (fun z => h z.1)
      rw [b_Paper_drawWays_2]
      have start := keyY 0 (by omega) gi1 o4 hfr hdone (fun c hc => by omega)
      cases hF : isF W T f with
      | true =>
        have ew : wayF W T f = f := by unfold wayF; rw [if_pos hF]
        rw [ew] at start
        simp (disch := omega) only [b_Paper_drawWays_8, b_Paper_drawWays_13, b_Paper_drawWays_16, b_Paper_drawWays_22, hf, c_hasForm_n _ _ _ _ hf ((e1 3 0 (by decide)).trans hw) ((e1 3 1 (by decide)).trans ht) ((e1 3 4 (by decide)).trans hl) hW.2 hT.2, hF, b32_1, n32_add, n32_mul, n32_lt, n32_le, n32_eq, n32_clamp, n32_inT, n32_div, n32_rem, n32_m1, n32_m1', n32_m1lt, n32_ltm1, n32_10, n32_01, Nat.not_lt_zero, Nat.lt_irrefl, Nat.mul_zero, Nat.zero_mul, Nat.zero_add, Nat.add_zero, Nat.reduceEqDiff, Nat.one_ne_zero, Nat.zero_ne_one, ax_psh_none, ax_psh_some, true_and, and_true, and_false, false_and, not_true_eq_false, not_false_eq_true, true_imp_iff, false_imp_iff, imp_self, or_true, true_or, or_false, false_or, and_self, ite_true, ite_false, if_true, if_false]
        exact start
      | false =>
        have ew : wayF W T f = 6 := by unfold wayF; rw [if_neg (by rw [hF]; decide)]
        rw [ew] at start
        simp (disch := omega) only [b_Paper_drawWays_8, b_Paper_drawWays_13, b_Paper_drawWays_20, b_Paper_drawWays_22, hf, c_hasForm_n _ _ _ _ hf ((e1 3 0 (by decide)).trans hw) ((e1 3 1 (by decide)).trans ht) ((e1 3 4 (by decide)).trans hl) hW.2 hT.2, hF, b32_0, n32_add, n32_mul, n32_lt, n32_le, n32_eq, n32_clamp, n32_inT, n32_div, n32_rem, n32_m1, n32_m1', n32_m1lt, n32_ltm1, n32_10, n32_01, Nat.not_lt_zero, Nat.lt_irrefl, Nat.mul_zero, Nat.zero_mul, Nat.zero_add, Nat.add_zero, Nat.reduceEqDiff, Nat.one_ne_zero, Nat.zero_ne_one, ax_psh_none, ax_psh_some, true_and, and_true, and_false, false_and, not_true_eq_false, not_false_eq_true, true_imp_iff, false_imp_iff, imp_self, or_true, true_or, or_false, false_or, and_self, ite_true, ite_false, if_true, if_false]
        exact start
    · intro y hy ihY gi2 o4 hfr2 hdone2 hrow2
      have e2 : gi2 3 t 1 = n32 T := (hfr2 3 t 1 (by omega)).trans ht
      have keyX := loop_up (n := W) (P := fun x => ∀ (gi3 : GI), (∀ s a j, ¬ (s = 59 ∧ 8 * t ≤ a ∧ a < 8 * t + 8) → gi3 s a j = gi s a j) → (∀ f', f' < f → ∀ c, c < W * T → gi3 59 (8 * t + f') c = n32 (tk W T (wayF W T f') c)) → (∀ c, c < y * W + x → gi3 59 (8 * t + f) c = n32 (tk W T (wayF W T f) c)) → Runs (d + 2) (m_Paper_drawWays, 36, [some (.inr (.inr (some (3, t)))), some (.inl (n32 f)), some (.inl (n32 (wayF W T f))), some (.inl (n32 y)), some (.inl (n32 x))], []) (gi3, g) Q) ?_ ?_
      · rw [b_Paper_drawWays_25]
        simp (disch := omega) only [b_Paper_drawWays_33, e2, hy, n32_add, n32_mul, n32_lt, n32_le, n32_eq, n32_clamp, n32_inT, n32_div, n32_rem, n32_m1, n32_m1', n32_m1lt, n32_ltm1, n32_10, n32_01, Nat.not_lt_zero, Nat.lt_irrefl, Nat.mul_zero, Nat.zero_mul, Nat.zero_add, Nat.add_zero, Nat.reduceEqDiff, Nat.one_ne_zero, Nat.zero_ne_one, ax_psh_none, ax_psh_some, true_and, and_true, and_false, false_and, not_true_eq_false, not_false_eq_true, true_imp_iff, false_imp_iff, imp_self, or_true, true_or, or_false, false_or, and_self, ite_true, ite_false, if_true, if_false]
        exact keyX 0 (by omega) gi2 hfr2 hdone2 (fun c hc => hrow2 c (by omega))
      · intro x hx ihX gi3 hfr3 hdone3 hrow3
        have a0 : gi3 3 t 0 = n32 W := (hfr3 3 t 0 (by omega)).trans hw
        have a1 : gi3 3 t 1 = n32 T := (hfr3 3 t 1 (by omega)).trans ht
        have hxy := xy_lt hx hy
        rw [b_Paper_drawWays_36]
        simp (disch := omega) only [b_Paper_drawWays_45, b_Paper_drawWays_75, a0, a1, hx, G_0_0 hG, G_0_1 hG, G_0_2 hG, G_0_3 hG, G_0_7 hG, G_0_10 hG, G_0_12 hG, G_0_13 hG, G_0_14 hG, G_0_15 hG, G_0_16 hG, G_0_17 hG, G_1_0 hG, G_1_2 hG, G_1_5 hG, G_2_4 hG, G_2_5 hG, G_3_5 hG, G_3_6 hG, G_3_7 hG, G_3_8 hG, G_3_9 hG, G_5_0 hG, G_5_1 hG, G_6_0 hG, G_6_1 hG, G_6_2 hG, G_6_9 hG, G_6_10 hG, G_6_11 hG, G_6_12 hG, G_6_13 hG, G_7_0 hG, G_7_5 hG, G_8_8 hG, G_8_9 hG, G_9_8 hG, G_9_9 hG, G_10_7 hG, G_10_8 hG, G_10_9 hG, G_10_10 hG, G_10_11 hG, G_11_0 hG, G_12_2 hG, G_12_3 hG, G_12_4 hG, G_12_5 hG, G_12_7 hG, G_12_8 hG, G_12_9 hG, G_12_12 hG, G_12_13 hG, G_12_14 hG, G_12_22 hG, G_12_23 hG, G_12_29 hG, G_12_30 hG, G_12_31 hG, G_12_37 hG, G_12_38 hG, G_12_39 hG, G_12_40 hG, G_12_41 hG, G_12_43 hG, G_12_46 hG, G_12_47 hG, G_12_48 hG, G_25 hG, G_26 hG, G_47 hG, G_58 hG, c_takenTo _ _ _ _ hW.2 hT.2 hx hy wf, n32_add, n32_mul, n32_lt, n32_le, n32_eq, n32_clamp, n32_inT, n32_div, n32_rem, n32_m1, n32_m1', n32_m1lt, n32_ltm1, n32_10, n32_01, Nat.not_lt_zero, Nat.lt_irrefl, Nat.mul_zero, Nat.zero_mul, Nat.zero_add, Nat.add_zero, Nat.reduceEqDiff, Nat.one_ne_zero, Nat.zero_ne_one, ax_psh_none, ax_psh_some, true_and, and_true, and_false, false_and, not_true_eq_false, not_false_eq_true, true_imp_iff, false_imp_iff, imp_self, or_true, true_or, or_false, false_or, and_self, ite_true, ite_false, if_true, if_false]
        refine ihX _ ?_ ?_ ?_
        · intro s a j h
          rw [wI_at, if_neg (by omega)]
          exact hfr3 s a j h
        · intro f' hf' c hc
          rw [wI_at, if_neg (by omega)]
          exact hdone3 f' hf' c hc
        · intro c hc
          rw [wI_at]
          by_cases z : c = y * W + x
          · rw [if_pos ⟨rfl, rfl, z⟩, z]
          · rw [if_neg (by omega)]
            exact hrow3 c (by omega)
      · intro gi3 hfr3 hdone3 hrow3
        have a0 : gi3 3 t 0 = n32 W := (hfr3 3 t 0 (by omega)).trans hw
        rw [b_Paper_drawWays_36]
        simp (disch := omega) only [b_Paper_drawWays_82, a0, n32_add, n32_mul, n32_lt, n32_le, n32_eq, n32_clamp, n32_inT, n32_div, n32_rem, n32_m1, n32_m1', n32_m1lt, n32_ltm1, n32_10, n32_01, Nat.not_lt_zero, Nat.lt_irrefl, Nat.mul_zero, Nat.zero_mul, Nat.zero_add, Nat.add_zero, Nat.reduceEqDiff, Nat.one_ne_zero, Nat.zero_ne_one, ax_psh_none, ax_psh_some, true_and, and_true, and_false, false_and, not_true_eq_false, not_false_eq_true, true_imp_iff, false_imp_iff, imp_self, or_true, true_or, or_false, false_or, and_self, ite_true, ite_false, if_true, if_false]
        exact ihY gi3 _ hfr3 hdone3 (fun c hc => hrow3 c (by rw [Nat.succ_mul] at hc; exact hc))
    · intro gi2 o4 hfr2 hdone2 hrow2
      have e2 : gi2 3 t 1 = n32 T := (hfr2 3 t 1 (by omega)).trans ht
      rw [b_Paper_drawWays_25]
      simp (disch := omega) only [b_Paper_drawWays_88, e2, n32_add, n32_mul, n32_lt, n32_le, n32_eq, n32_clamp, n32_inT, n32_div, n32_rem, n32_m1, n32_m1', n32_m1lt, n32_ltm1, n32_10, n32_01, Nat.not_lt_zero, Nat.lt_irrefl, Nat.mul_zero, Nat.zero_mul, Nat.zero_add, Nat.add_zero, Nat.reduceEqDiff, Nat.one_ne_zero, Nat.zero_ne_one, ax_psh_none, ax_psh_some, true_and, and_true, and_false, false_and, not_true_eq_false, not_false_eq_true, true_imp_iff, false_imp_iff, imp_self, or_true, true_or, or_false, false_or, and_self, ite_true, ite_false, if_true, if_false]
      refine ihF gi2 _ _ _ hfr2 ?_
      intro f' hf' c hc
      by_cases z : f' = f
      · subst z
        exact hrow2 c (by rw [Nat.mul_comm]; exact hc)
      · exact hdone2 f' (by omega) c hc
  · intro gi1 o2 o3 o4 hfr hdone
    rw [b_Paper_drawWays_2]
    simp (disch := omega) only [b_Paper_drawWays_94, n32_add, n32_mul, n32_lt, n32_le, n32_eq, n32_clamp, n32_inT, n32_div, n32_rem, n32_m1, n32_m1', n32_m1lt, n32_ltm1, n32_10, n32_01, Nat.not_lt_zero, Nat.lt_irrefl, Nat.mul_zero, Nat.zero_mul, Nat.zero_add, Nat.add_zero, Nat.reduceEqDiff, Nat.one_ne_zero, Nat.zero_ne_one, ax_psh_none, ax_psh_some, true_and, and_true, and_false, false_and, not_true_eq_false, not_false_eq_true, true_imp_iff, false_imp_iff, imp_self, or_true, true_or, or_false, false_or, and_self, ite_true, ite_false, if_true, if_false]
    exact hq gi1 hfr hdone
theorem pts_succ (n : Nat) (b : Nat → Nat) (hb : b n < 10) : ptsF (n + 1) b = ptsF n b + (if cntF n b (b n) = 0 then 1 else 0) := by
  have h := sumN_one (f := fun p => if cntF n b p = 0 then 0 else 1) (g := fun p => if cntF (n + 1) b p = 0 then 0 else 1) (n := 10) (i := b n) hb (fun k _ hk => by
    have : cntF (n + 1) b k = cntF n b k := by
      show cntF n b k + (if b n = k then 1 else 0) = _
      rw [if_neg (Ne.symm hk), Nat.add_zero]
    simp only [this])
  have e : cntF (n + 1) b (b n) = cntF n b (b n) + 1 := by
    show cntF n b (b n) + (if b n = b n then 1 else 0) = _
    rw [if_pos rfl]
  simp only [e] at h
  unfold ptsF
  rw [if_neg (Nat.succ_ne_zero _)] at h
  split at h
  · rename_i z
    rw [if_pos z]
    omega
  · rename_i z
    rw [if_neg z]
    omega
theorem c_countParts {d t W T : Nat} {b : Nat → Nat} {gi : GI} {g : AG} {Q : Option AV → AH → Prop} (hG : GOK g) (hw : gi 3 t 0 = n32 W) (ht : gi 3 t 1 = n32 T) (hW : W ≤ 8) (hT : T ≤ 8) (hb : ∀ c, c < W * T → gi 54 t c = n32 (b c)) (hb10 : BrdOK W T b)
    (hq : ∀ gi', (∀ s a j, ¬ (s = 56 ∧ a = t) → ¬ (s = 3 ∧ a = t ∧ j = 3) → gi' s a j = gi s a j) → gi' 3 t 3 = n32 (ptsF (W * T) b) → (∀ p, p < 10 → gi' 56 t p = n32 (cntF (W * T) b p)) → Q none (gi', g)) :
    ax_call (d + 2) m_Paper_countParts [.inr (.inr (some (3, t)))] (gi, g) Q := by
  have h64 := wt64 hW hT
  have key := loop_up (n := W * T) (P := fun i => ∀ (gi1 : GI) o3, (∀ s a j, ¬ (s = 56 ∧ a = t) → ¬ (s = 3 ∧ a = t ∧ j = 3) → gi1 s a j = gi s a j) → gi1 3 t 3 = n32 (ptsF i b) → (∀ p, p < 10 → gi1 56 t p = n32 (cntF i b p)) → Runs (d + 1) (m_Paper_countParts, 20, [some (.inr (.inr (some (3, t)))), some (.inl (n32 (W * T))), some (.inl (n32 i)), o3], []) (gi1, g) Q) ?_ ?_
  · rw [e_Paper_countParts]
    have a0 : ∀ x, ax_wI (rowF gi 56 t 10 (fun _ => n32 0)) 3 t 3 x 3 t 0 = n32 W := fun x => by simp [wI_at, rowF_at, hw]
    have a1 : ∀ x, ax_wI (rowF gi 56 t 10 (fun _ => n32 0)) 3 t 3 x 3 t 1 = n32 T := fun x => by simp [wI_at, rowF_at, ht]
    simp only [b_Paper_countParts_0, b_Paper_countParts_8, b_Paper_countParts_17, G_0_0 hG, G_0_1 hG, G_0_2 hG, G_0_3 hG, G_0_7 hG, G_0_10 hG, G_0_12 hG, G_0_13 hG, G_0_14 hG, G_0_15 hG, G_0_16 hG, G_0_17 hG, G_1_0 hG, G_1_2 hG, G_1_5 hG, G_2_4 hG, G_2_5 hG, G_3_5 hG, G_3_6 hG, G_3_7 hG, G_3_8 hG, G_3_9 hG, G_5_0 hG, G_5_1 hG, G_6_0 hG, G_6_1 hG, G_6_2 hG, G_6_9 hG, G_6_10 hG, G_6_11 hG, G_6_12 hG, G_6_13 hG, G_7_0 hG, G_7_5 hG, G_8_8 hG, G_8_9 hG, G_9_8 hG, G_9_9 hG, G_10_7 hG, G_10_8 hG, G_10_9 hG, G_10_10 hG, G_10_11 hG, G_11_0 hG, G_12_2 hG, G_12_3 hG, G_12_4 hG, G_12_5 hG, G_12_7 hG, G_12_8 hG, G_12_9 hG, G_12_12 hG, G_12_13 hG, G_12_14 hG, G_12_22 hG, G_12_23 hG, G_12_29 hG, G_12_30 hG, G_12_31 hG, G_12_37 hG, G_12_38 hG, G_12_39 hG, G_12_40 hG, G_12_41 hG, G_12_43 hG, G_12_46 hG, G_12_47 hG, G_12_48 hG, G_25 hG, G_26 hG, G_47 hG, G_58 hG, c_fill56, c_Paper_area _ _ _ _ (a0 _) (a1 _), ax_psh_none, ax_psh_some, true_and, and_true, and_false, false_and, not_true_eq_false, not_false_eq_true, true_imp_iff, false_imp_iff, imp_self, or_true, true_or, or_false, false_or, and_self, ite_true, ite_false, if_true, if_false]
    refine key 0 (Nat.zero_le _) _ _ ?_ ?_ ?_
    · intro s a j h1 h2
      rw [wI_at, if_neg h2, rowF_at, if_neg (fun z => h1 ⟨z.1, z.2.1⟩)]
    · rw [wI_at, if_pos ⟨rfl, rfl, rfl⟩]
      rfl
    · intro p hp
      rw [wI_at, if_neg (by omega), rowF_at, if_pos ⟨rfl, rfl, hp⟩]
      rfl
  · intro i hi ih gi1 o3 hfr h3 h56
    have hbi := hb10 i hi
    have c54 : gi1 54 t i = n32 (b i) := (hfr 54 t i (by omega) (by omega)).trans (hb i hi)
    have hcl := cnt_le i b (b i)
    have hps := pts_succ i b hbi
    have hpl := pts_le i b
    rw [b_Paper_countParts_20]
    -- the end of a step
    have fin : ∀ (gi2 : GI), (∀ s a j, ¬ (s = 56 ∧ a = t) → ¬ (s = 3 ∧ a = t ∧ j = 3) → gi2 s a j = gi s a j) → gi2 3 t 3 = n32 (ptsF (i + 1) b) → (∀ p, p < 10 → gi2 56 t p = n32 (cntF i b p)) → Runs (d + 1) (m_Paper_countParts, 51, [some (.inr (.inr (some (3, t)))), some (.inl (n32 (W * T))), some (.inl (n32 i)), some (.inl (n32 (b i)))], []) (gi2, g) Q := by
      intro gi2 f1 f2 f3
      simp (disch := omega) only [b_Paper_countParts_51, G_0_0 hG, G_0_1 hG, G_0_2 hG, G_0_3 hG, G_0_7 hG, G_0_10 hG, G_0_12 hG, G_0_13 hG, G_0_14 hG, G_0_15 hG, G_0_16 hG, G_0_17 hG, G_1_0 hG, G_1_2 hG, G_1_5 hG, G_2_4 hG, G_2_5 hG, G_3_5 hG, G_3_6 hG, G_3_7 hG, G_3_8 hG, G_3_9 hG, G_5_0 hG, G_5_1 hG, G_6_0 hG, G_6_1 hG, G_6_2 hG, G_6_9 hG, G_6_10 hG, G_6_11 hG, G_6_12 hG, G_6_13 hG, G_7_0 hG, G_7_5 hG, G_8_8 hG, G_8_9 hG, G_9_8 hG, G_9_9 hG, G_10_7 hG, G_10_8 hG, G_10_9 hG, G_10_10 hG, G_10_11 hG, G_11_0 hG, G_12_2 hG, G_12_3 hG, G_12_4 hG, G_12_5 hG, G_12_7 hG, G_12_8 hG, G_12_9 hG, G_12_12 hG, G_12_13 hG, G_12_14 hG, G_12_22 hG, G_12_23 hG, G_12_29 hG, G_12_30 hG, G_12_31 hG, G_12_37 hG, G_12_38 hG, G_12_39 hG, G_12_40 hG, G_12_41 hG, G_12_43 hG, G_12_46 hG, G_12_47 hG, G_12_48 hG, G_25 hG, G_26 hG, G_47 hG, G_58 hG, f3 (b i) hbi, n32_add, n32_mul, n32_lt, n32_le, n32_eq, n32_clamp, n32_inT, n32_div, n32_rem, n32_m1, n32_m1', n32_m1lt, n32_ltm1, n32_10, n32_01, Nat.not_lt_zero, Nat.lt_irrefl, Nat.mul_zero, Nat.zero_mul, Nat.zero_add, Nat.add_zero, Nat.reduceEqDiff, Nat.one_ne_zero, Nat.zero_ne_one, ax_psh_none, ax_psh_some, true_and, and_true, and_false, false_and, not_true_eq_false, not_false_eq_true, true_imp_iff, false_imp_iff, imp_self, or_true, true_or, or_false, false_or, and_self, ite_true, ite_false, if_true, if_false]
      refine ih _ _ ?_ ?_ ?_
      · intro s a j h1 h2
        rw [wI_at, if_neg (fun z => h1 ⟨z.1, z.2.1⟩)]
        exact f1 s a j h1 h2
      · rw [wI_at, if_neg (by omega)]
        exact f2
      · intro p hp
        rw [wI_at]
        show _ = n32 (cntF i b p + (if b i = p then 1 else 0))
        by_cases z : p = b i
        · rw [if_pos ⟨rfl, rfl, z⟩, if_pos z.symm, z]
        · rw [if_neg (by omega), if_neg (Ne.symm z)]
          exact f3 p hp
    by_cases hz : cntF i b (b i) = 0
    · rw [if_pos hz] at hps
      simp (disch := omega) only [b_Paper_countParts_25, b_Paper_countParts_41, G_0_0 hG, G_0_1 hG, G_0_2 hG, G_0_3 hG, G_0_7 hG, G_0_10 hG, G_0_12 hG, G_0_13 hG, G_0_14 hG, G_0_15 hG, G_0_16 hG, G_0_17 hG, G_1_0 hG, G_1_2 hG, G_1_5 hG, G_2_4 hG, G_2_5 hG, G_3_5 hG, G_3_6 hG, G_3_7 hG, G_3_8 hG, G_3_9 hG, G_5_0 hG, G_5_1 hG, G_6_0 hG, G_6_1 hG, G_6_2 hG, G_6_9 hG, G_6_10 hG, G_6_11 hG, G_6_12 hG, G_6_13 hG, G_7_0 hG, G_7_5 hG, G_8_8 hG, G_8_9 hG, G_9_8 hG, G_9_9 hG, G_10_7 hG, G_10_8 hG, G_10_9 hG, G_10_10 hG, G_10_11 hG, G_11_0 hG, G_12_2 hG, G_12_3 hG, G_12_4 hG, G_12_5 hG, G_12_7 hG, G_12_8 hG, G_12_9 hG, G_12_12 hG, G_12_13 hG, G_12_14 hG, G_12_22 hG, G_12_23 hG, G_12_29 hG, G_12_30 hG, G_12_31 hG, G_12_37 hG, G_12_38 hG, G_12_39 hG, G_12_40 hG, G_12_41 hG, G_12_43 hG, G_12_46 hG, G_12_47 hG, G_12_48 hG, G_25 hG, G_26 hG, G_47 hG, G_58 hG, c54, h56 (b i) hbi, hz, hi, h3, n32_add, n32_mul, n32_lt, n32_le, n32_eq, n32_clamp, n32_inT, n32_div, n32_rem, n32_m1, n32_m1', n32_m1lt, n32_ltm1, n32_10, n32_01, Nat.not_lt_zero, Nat.lt_irrefl, Nat.mul_zero, Nat.zero_mul, Nat.zero_add, Nat.add_zero, Nat.reduceEqDiff, Nat.one_ne_zero, Nat.zero_ne_one, ax_psh_none, ax_psh_some, true_and, and_true, and_false, false_and, not_true_eq_false, not_false_eq_true, true_imp_iff, false_imp_iff, imp_self, or_true, true_or, or_false, false_or, and_self, ite_true, ite_false, if_true, if_false]
      refine fin _ ?_ ?_ ?_
      · intro s a j h1 h2
        rw [wI_at, if_neg h2]
        exact hfr s a j h1 h2
      · rw [wI_at, if_pos ⟨rfl, rfl, rfl⟩, hps]
      · intro p hp
        rw [wI_at, if_neg (by omega)]
        exact h56 p hp
    · rw [if_neg hz] at hps
      simp (disch := omega) only [b_Paper_countParts_25, G_0_0 hG, G_0_1 hG, G_0_2 hG, G_0_3 hG, G_0_7 hG, G_0_10 hG, G_0_12 hG, G_0_13 hG, G_0_14 hG, G_0_15 hG, G_0_16 hG, G_0_17 hG, G_1_0 hG, G_1_2 hG, G_1_5 hG, G_2_4 hG, G_2_5 hG, G_3_5 hG, G_3_6 hG, G_3_7 hG, G_3_8 hG, G_3_9 hG, G_5_0 hG, G_5_1 hG, G_6_0 hG, G_6_1 hG, G_6_2 hG, G_6_9 hG, G_6_10 hG, G_6_11 hG, G_6_12 hG, G_6_13 hG, G_7_0 hG, G_7_5 hG, G_8_8 hG, G_8_9 hG, G_9_8 hG, G_9_9 hG, G_10_7 hG, G_10_8 hG, G_10_9 hG, G_10_10 hG, G_10_11 hG, G_11_0 hG, G_12_2 hG, G_12_3 hG, G_12_4 hG, G_12_5 hG, G_12_7 hG, G_12_8 hG, G_12_9 hG, G_12_12 hG, G_12_13 hG, G_12_14 hG, G_12_22 hG, G_12_23 hG, G_12_29 hG, G_12_30 hG, G_12_31 hG, G_12_37 hG, G_12_38 hG, G_12_39 hG, G_12_40 hG, G_12_41 hG, G_12_43 hG, G_12_46 hG, G_12_47 hG, G_12_48 hG, G_25 hG, G_26 hG, G_47 hG, G_58 hG, c54, h56 (b i) hbi, hz, hi, n32_add, n32_mul, n32_lt, n32_le, n32_eq, n32_clamp, n32_inT, n32_div, n32_rem, n32_m1, n32_m1', n32_m1lt, n32_ltm1, n32_10, n32_01, Nat.not_lt_zero, Nat.lt_irrefl, Nat.mul_zero, Nat.zero_mul, Nat.zero_add, Nat.add_zero, Nat.reduceEqDiff, Nat.one_ne_zero, Nat.zero_ne_one, ax_psh_none, ax_psh_some, true_and, and_true, and_false, false_and, not_true_eq_false, not_false_eq_true, true_imp_iff, false_imp_iff, imp_self, or_true, true_or, or_false, false_or, and_self, ite_true, ite_false, if_true, if_false]
      exact fin gi1 hfr (by rw [h3, hps]; rfl) h56
  · intro gi1 o3 hfr h3 h56
    rw [b_Paper_countParts_20]
    simp (disch := omega) only [b_Paper_countParts_67, n32_add, n32_mul, n32_lt, n32_le, n32_eq, n32_clamp, n32_inT, n32_div, n32_rem, n32_m1, n32_m1', n32_m1lt, n32_ltm1, n32_10, n32_01, Nat.not_lt_zero, Nat.lt_irrefl, Nat.mul_zero, Nat.zero_mul, Nat.zero_add, Nat.add_zero, Nat.reduceEqDiff, Nat.one_ne_zero, Nat.zero_ne_one, ax_psh_none, ax_psh_some, true_and, and_true, and_false, false_and, not_true_eq_false, not_false_eq_true, true_imp_iff, false_imp_iff, imp_self, or_true, true_or, or_false, false_or, and_self, ite_true, ite_false, if_true, if_false]
    exact hq gi1 hfr h3 h56
theorem c_countOff (d : Nat) {gi : GI} {g : AG} {Q : Option AV → AH → Prop} (hG : GOK g) {t W T l : Nat} {b : Nat → Nat} (ht6 : t < 6) (hP : PapW gi t W T) (hl : l < likes W T) (hb : ∀ c, c < W * T → gi 54 t c = n32 (b c)) (hb10 : BrdOK W T b) : ax_call (d + 2) m_Paper_countOff [.inr (.inr (some (3, t))), .inl (n32 l)] (gi, g) Q = Q (some (.inl (n32 (offF W T b l)))) (gi, g) := by
  obtain ⟨hw, ht, hlk, hW, hT, hway⟩ := hP
  have h64 := wt64 hW.2 hT.2
  have hl6 : l < 6 := by have := likes_36 W T; omega
  have hF := isF_like hl
  have ew : wayF W T l = l := by unfold wayF; rw [if_pos hF]
  have key := loop_up (n := W * T) (P := fun i => ∀ o1, Runs (d + 1) (m_Paper_countOff, 18, [some (.inr (.inr (some (3, t)))), o1, some (.inr (.inr (some (59, 8 * t + l)))), some (.inl (n32 (W * T))), some (.inl (n32 (sumN (fun c => nq (b c) (b (tk W T l c))) i))), some (.inl (n32 i))], []) (gi, g) Q = Q (some (.inl (n32 (offF W T b l)))) (gi, g)) ?_ ?_
  · rw [e_Paper_countOff]
    simp (disch := omega) only [b_Paper_countOff_0, b_Paper_countOff_11, G_0_0 hG, G_0_1 hG, G_0_2 hG, G_0_3 hG, G_0_7 hG, G_0_10 hG, G_0_12 hG, G_0_13 hG, G_0_14 hG, G_0_15 hG, G_0_16 hG, G_0_17 hG, G_1_0 hG, G_1_2 hG, G_1_5 hG, G_2_4 hG, G_2_5 hG, G_3_5 hG, G_3_6 hG, G_3_7 hG, G_3_8 hG, G_3_9 hG, G_5_0 hG, G_5_1 hG, G_6_0 hG, G_6_1 hG, G_6_2 hG, G_6_9 hG, G_6_10 hG, G_6_11 hG, G_6_12 hG, G_6_13 hG, G_7_0 hG, G_7_5 hG, G_8_8 hG, G_8_9 hG, G_9_8 hG, G_9_9 hG, G_10_7 hG, G_10_8 hG, G_10_9 hG, G_10_10 hG, G_10_11 hG, G_11_0 hG, G_12_2 hG, G_12_3 hG, G_12_4 hG, G_12_5 hG, G_12_7 hG, G_12_8 hG, G_12_9 hG, G_12_12 hG, G_12_13 hG, G_12_14 hG, G_12_22 hG, G_12_23 hG, G_12_29 hG, G_12_30 hG, G_12_31 hG, G_12_37 hG, G_12_38 hG, G_12_39 hG, G_12_40 hG, G_12_41 hG, G_12_43 hG, G_12_46 hG, G_12_47 hG, G_12_48 hG, G_25 hG, G_26 hG, G_47 hG, G_58 hG, c_Paper_area _ _ _ _ hw ht, n32_add, n32_mul, n32_lt, n32_le, n32_eq, n32_clamp, n32_inT, n32_div, n32_rem, n32_m1, n32_m1', n32_m1lt, n32_ltm1, n32_10, n32_01, Nat.not_lt_zero, Nat.lt_irrefl, Nat.mul_zero, Nat.zero_mul, Nat.zero_add, Nat.add_zero, Nat.reduceEqDiff, Nat.one_ne_zero, Nat.zero_ne_one, ax_psh_none, ax_psh_some, true_and, and_true, and_false, false_and, not_true_eq_false, not_false_eq_true, true_imp_iff, false_imp_iff, imp_self, or_true, true_or, or_false, false_or, and_self, ite_true, ite_false, if_true, if_false]
    exact key 0 (Nat.zero_le _) _
  · intro i hi ih o1
    have hwi := hway l (by omega) i hi
    rw [ew] at hwi
    have htk := tk_lt hW.2 hT.2 (by omega) hF hi
    have b1 := hb10 i hi
    have b2 := hb10 _ htk
    rw [b_Paper_countOff_18]
    by_cases he : b i = b (tk W T l i)
    · have e0 : nq (b i) (b (tk W T l i)) = 0 := if_pos he
      simp (disch := omega) only [b_Paper_countOff_24, b_Paper_countOff_46, G_0_0 hG, G_0_1 hG, G_0_2 hG, G_0_3 hG, G_0_7 hG, G_0_10 hG, G_0_12 hG, G_0_13 hG, G_0_14 hG, G_0_15 hG, G_0_16 hG, G_0_17 hG, G_1_0 hG, G_1_2 hG, G_1_5 hG, G_2_4 hG, G_2_5 hG, G_3_5 hG, G_3_6 hG, G_3_7 hG, G_3_8 hG, G_3_9 hG, G_5_0 hG, G_5_1 hG, G_6_0 hG, G_6_1 hG, G_6_2 hG, G_6_9 hG, G_6_10 hG, G_6_11 hG, G_6_12 hG, G_6_13 hG, G_7_0 hG, G_7_5 hG, G_8_8 hG, G_8_9 hG, G_9_8 hG, G_9_9 hG, G_10_7 hG, G_10_8 hG, G_10_9 hG, G_10_10 hG, G_10_11 hG, G_11_0 hG, G_12_2 hG, G_12_3 hG, G_12_4 hG, G_12_5 hG, G_12_7 hG, G_12_8 hG, G_12_9 hG, G_12_12 hG, G_12_13 hG, G_12_14 hG, G_12_22 hG, G_12_23 hG, G_12_29 hG, G_12_30 hG, G_12_31 hG, G_12_37 hG, G_12_38 hG, G_12_39 hG, G_12_40 hG, G_12_41 hG, G_12_43 hG, G_12_46 hG, G_12_47 hG, G_12_48 hG, G_25 hG, G_26 hG, G_47 hG, G_58 hG, hwi, hb i hi, hb _ htk, he.symm, hi, n32_add, n32_mul, n32_lt, n32_le, n32_eq, n32_clamp, n32_inT, n32_div, n32_rem, n32_m1, n32_m1', n32_m1lt, n32_ltm1, n32_10, n32_01, Nat.not_lt_zero, Nat.lt_irrefl, Nat.mul_zero, Nat.zero_mul, Nat.zero_add, Nat.add_zero, Nat.reduceEqDiff, Nat.one_ne_zero, Nat.zero_ne_one, ax_psh_none, ax_psh_some, true_and, and_true, and_false, false_and, not_true_eq_false, not_false_eq_true, true_imp_iff, false_imp_iff, imp_self, or_true, true_or, or_false, false_or, and_self, ite_true, ite_false, if_true, if_false]
      have := ih o1
      rw [sumN_succ, e0] at this
      exact this
    · have e0 : nq (b i) (b (tk W T l i)) = 1 := if_neg he
      simp (disch := omega) only [b_Paper_countOff_24, b_Paper_countOff_43, b_Paper_countOff_46, G_0_0 hG, G_0_1 hG, G_0_2 hG, G_0_3 hG, G_0_7 hG, G_0_10 hG, G_0_12 hG, G_0_13 hG, G_0_14 hG, G_0_15 hG, G_0_16 hG, G_0_17 hG, G_1_0 hG, G_1_2 hG, G_1_5 hG, G_2_4 hG, G_2_5 hG, G_3_5 hG, G_3_6 hG, G_3_7 hG, G_3_8 hG, G_3_9 hG, G_5_0 hG, G_5_1 hG, G_6_0 hG, G_6_1 hG, G_6_2 hG, G_6_9 hG, G_6_10 hG, G_6_11 hG, G_6_12 hG, G_6_13 hG, G_7_0 hG, G_7_5 hG, G_8_8 hG, G_8_9 hG, G_9_8 hG, G_9_9 hG, G_10_7 hG, G_10_8 hG, G_10_9 hG, G_10_10 hG, G_10_11 hG, G_11_0 hG, G_12_2 hG, G_12_3 hG, G_12_4 hG, G_12_5 hG, G_12_7 hG, G_12_8 hG, G_12_9 hG, G_12_12 hG, G_12_13 hG, G_12_14 hG, G_12_22 hG, G_12_23 hG, G_12_29 hG, G_12_30 hG, G_12_31 hG, G_12_37 hG, G_12_38 hG, G_12_39 hG, G_12_40 hG, G_12_41 hG, G_12_43 hG, G_12_46 hG, G_12_47 hG, G_12_48 hG, G_25 hG, G_26 hG, G_47 hG, G_58 hG, hwi, hb i hi, hb _ htk, he, hi, n32_add, n32_mul, n32_lt, n32_le, n32_eq, n32_clamp, n32_inT, n32_div, n32_rem, n32_m1, n32_m1', n32_m1lt, n32_ltm1, n32_10, n32_01, Nat.not_lt_zero, Nat.lt_irrefl, Nat.mul_zero, Nat.zero_mul, Nat.zero_add, Nat.add_zero, Nat.reduceEqDiff, Nat.one_ne_zero, Nat.zero_ne_one, ax_psh_none, ax_psh_some, true_and, and_true, and_false, false_and, not_true_eq_false, not_false_eq_true, true_imp_iff, false_imp_iff, imp_self, or_true, true_or, or_false, false_or, and_self, ite_true, ite_false, if_true, if_false]
      have := ih o1
      rw [sumN_succ, e0] at this
      exact this
  · intro o1
    rw [b_Paper_countOff_18]
    simp (disch := omega) only [b_Paper_countOff_52, n32_add, n32_mul, n32_lt, n32_le, n32_eq, n32_clamp, n32_inT, n32_div, n32_rem, n32_m1, n32_m1', n32_m1lt, n32_ltm1, n32_10, n32_01, Nat.not_lt_zero, Nat.lt_irrefl, Nat.mul_zero, Nat.zero_mul, Nat.zero_add, Nat.add_zero, Nat.reduceEqDiff, Nat.one_ne_zero, Nat.zero_ne_one, ax_psh_none, ax_psh_some, true_and, and_true, and_false, false_and, not_true_eq_false, not_false_eq_true, true_imp_iff, false_imp_iff, imp_self, or_true, true_or, or_false, false_or, and_self, ite_true, ite_false, if_true, if_false]
    rfl
