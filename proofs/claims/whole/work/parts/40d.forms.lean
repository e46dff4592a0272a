/-! rings and forms: the class -/
def itk (W T l c : Nat) : Nat → Nat
  | 0 => c
  | k + 1 => tk W T l (itk W T l c k)
def amx (f : Nat → Nat) : Nat → Nat
  | 0 => 0
  | n + 1 => if f (amx f n) < f (n + 1) then n + 1 else amx f n
theorem amx_le (f : Nat → Nat) : ∀ n, amx f n ≤ n
  | 0 => Nat.le_refl 0
  | n + 1 => by
    unfold amx
    have := amx_le f n
    split <;> omega
theorem amx_scale {f g : Nat → Nat} {m : Nat} (hm : 1 ≤ m) : ∀ n, (∀ p, p ≤ n → g p = m * f p) → amx g n = amx f n
  | 0, _ => rfl
  | n + 1, h => by
    unfold amx
    rw [amx_scale hm n (fun p hp => h p (by omega)), h (n + 1) (Nat.le_refl _), h (amx f n) (by have := amx_le f n; omega)]
    have : (m * f (amx f n) < m * f (n + 1)) = (f (amx f n) < f (n + 1)) := propext (Nat.mul_lt_mul_left hm)
    simp only [this]
def ringC (W T : Nat) (b : Nat → Nat) (l c p : Nat) : Nat := sumN (fun k => if b (itk W T l c k) = p then 1 else 0) 4
theorem itk_lt {W T l c : Nat} (hW : W ≤ 8) (hT : T ≤ 8) (hl : l < likes W T) (hc : c < W * T) : ∀ k, itk W T l c k < W * T
  | 0 => hc
  | k + 1 => tk_lt hW hT (by have := likes_36 W T; omega) (isF_like hl) (itk_lt hW hT hl hc k)
theorem sumN_le1 {f : Nat → Nat} (h : ∀ i, f i ≤ 1) : ∀ n, sumN f n ≤ n
  | 0 => Nat.le_refl 0
  | n + 1 => by
    rw [sumN_succ]
    have := sumN_le1 h n
    have := h n
    omega
theorem c_mostOfRing {d t W T O l c : Nat} {b : Nat → Nat} {gi : GI} {g : AG} {Q : Option AV → AH → Prop} (hG : GOK g) (ht6 : t < 6) (h : Pap gi t W T O b) (hl : l < likes W T) (hc : c < W * T)
    (hq : ∀ gi', OnlyI gi gi' 57 t → Q (some (.inl (n32 (amx (ringC W T b l c) 9)))) (gi', g)) :
    ax_call (d + 2) m_Paper_mostOfRing [.inr (.inr (some (3, t))), .inl (n32 l), .inl (n32 c)] (gi, g) Q := by
  obtain ⟨hP, h2, h3, h54, hb, h55, h56⟩ := h
  obtain ⟨hw, ht, hlk, hW, hT, hway⟩ := hP
  have h64 := wt64 hW.2 hT.2
  have hl6 : l < 6 := by have := likes_36 W T; omega
  have ew : wayF W T l = l := by unfold wayF; rw [if_pos (isF_like hl)]
  have ile := fun k => itk_lt hW.2 hT.2 hl hc k
  have key2 : ∀ (gi1 : GI), OnlyI gi gi1 57 t → (∀ p, p < 10 → gi1 57 t p = n32 (ringC W T b l c p)) → ∀ o1 o2 o3, Runs (d + 1) (m_Paper_mostOfRing, 55, [some (.inr (.inr (some (3, t)))), o1, o2, o3, some (.inl (n32 (amx (ringC W T b l c) 0))), some (.inl (n32 (0 + 1)))], []) (gi1, g) Q := by
    intro gi1 hO h57
    refine loop_up (n := 9) (P := fun i => ∀ o1 o2 o3, Runs (d + 1) (m_Paper_mostOfRing, 55, [some (.inr (.inr (some (3, t)))), o1, o2, o3, some (.inl (n32 (amx (ringC W T b l c) i))), some (.inl (n32 (i + 1)))], []) (gi1, g) Q) ?_ ?_ 0 (by omega)
    · intro i hi ih o1 o2 o3
      have hle := amx_le (ringC W T b l c) i
      have rle : ∀ p, ringC W T b l c p ≤ 4 := fun p => sumN_le1 (fun k => by split <;> omega) 4
      have e1 := rle (amx (ringC W T b l c) i)
      have e2 := rle (i + 1)
      have hlt : i + 1 < 10 := by omega
      rw [b_Paper_mostOfRing_55]
      by_cases hz : ringC W T b l c (amx (ringC W T b l c) i) < ringC W T b l c (i + 1)
      · have em : amx (ringC W T b l c) (i + 1) = i + 1 := by
          show (if _ then _ else _) = _
          rw [if_pos hz]
        rw [em] at ih
        simp (disch := omega) only [b_Paper_mostOfRing_62, b_Paper_mostOfRing_79, b_Paper_mostOfRing_83, hlt, G_0_0 hG, G_0_1 hG, G_0_2 hG, G_0_3 hG, G_0_7 hG, G_0_10 hG, G_0_12 hG, G_0_13 hG, G_0_14 hG, G_0_15 hG, G_0_16 hG, G_0_17 hG, G_1_0 hG, G_1_2 hG, G_1_5 hG, G_2_4 hG, G_2_5 hG, G_3_5 hG, G_3_6 hG, G_3_7 hG, G_3_8 hG, G_3_9 hG, G_5_0 hG, G_5_1 hG, G_6_0 hG, G_6_1 hG, G_6_2 hG, G_6_9 hG, G_6_10 hG, G_6_11 hG, G_6_12 hG, G_6_13 hG, G_7_0 hG, G_7_5 hG, G_8_8 hG, G_8_9 hG, G_9_8 hG, G_9_9 hG, G_10_7 hG, G_10_8 hG, G_10_9 hG, G_10_10 hG, G_10_11 hG, G_11_0 hG, G_12_2 hG, G_12_3 hG, G_12_4 hG, G_12_5 hG, G_12_7 hG, G_12_8 hG, G_12_9 hG, G_12_12 hG, G_12_13 hG, G_12_14 hG, G_12_22 hG, G_12_23 hG, G_12_29 hG, G_12_30 hG, G_12_31 hG, G_12_37 hG, G_12_38 hG, G_12_39 hG, G_12_40 hG, G_12_41 hG, G_12_43 hG, G_12_46 hG, G_12_47 hG, G_12_48 hG, G_25 hG, G_26 hG, G_47 hG, G_58 hG, h57 (i + 1) hlt, h57 _ (by omega : amx (ringC W T b l c) i < 10), hz, n32_add, n32_mul, n32_lt, n32_le, n32_eq, n32_clamp, n32_inT, n32_div, n32_rem, n32_m1, n32_m1', n32_m1lt, n32_ltm1, n32_10, n32_01, Nat.not_lt_zero, Nat.lt_irrefl, Nat.mul_zero, Nat.zero_mul, Nat.zero_add, Nat.add_zero, Nat.reduceEqDiff, Nat.one_ne_zero, Nat.zero_ne_one, ax_psh_none, ax_psh_some, true_and, and_true, and_false, false_and, not_true_eq_false, not_false_eq_true, true_imp_iff, false_imp_iff, imp_self, or_true, true_or, or_false, false_or, and_self, ite_true, ite_false, if_true, if_false]
        exact ih _ _ _
      · have em : amx (ringC W T b l c) (i + 1) = amx (ringC W T b l c) i := by
          show (if _ then _ else _) = _
          rw [if_neg hz]
        rw [em] at ih
        simp (disch := omega) only [b_Paper_mostOfRing_62, b_Paper_mostOfRing_83, hlt, G_0_0 hG, G_0_1 hG, G_0_2 hG, G_0_3 hG, G_0_7 hG, G_0_10 hG, G_0_12 hG, G_0_13 hG, G_0_14 hG, G_0_15 hG, G_0_16 hG, G_0_17 hG, G_1_0 hG, G_1_2 hG, G_1_5 hG, G_2_4 hG, G_2_5 hG, G_3_5 hG, G_3_6 hG, G_3_7 hG, G_3_8 hG, G_3_9 hG, G_5_0 hG, G_5_1 hG, G_6_0 hG, G_6_1 hG, G_6_2 hG, G_6_9 hG, G_6_10 hG, G_6_11 hG, G_6_12 hG, G_6_13 hG, G_7_0 hG, G_7_5 hG, G_8_8 hG, G_8_9 hG, G_9_8 hG, G_9_9 hG, G_10_7 hG, G_10_8 hG, G_10_9 hG, G_10_10 hG, G_10_11 hG, G_11_0 hG, G_12_2 hG, G_12_3 hG, G_12_4 hG, G_12_5 hG, G_12_7 hG, G_12_8 hG, G_12_9 hG, G_12_12 hG, G_12_13 hG, G_12_14 hG, G_12_22 hG, G_12_23 hG, G_12_29 hG, G_12_30 hG, G_12_31 hG, G_12_37 hG, G_12_38 hG, G_12_39 hG, G_12_40 hG, G_12_41 hG, G_12_43 hG, G_12_46 hG, G_12_47 hG, G_12_48 hG, G_25 hG, G_26 hG, G_47 hG, G_58 hG, h57 (i + 1) hlt, h57 _ (by omega : amx (ringC W T b l c) i < 10), hz, n32_add, n32_mul, n32_lt, n32_le, n32_eq, n32_clamp, n32_inT, n32_div, n32_rem, n32_m1, n32_m1', n32_m1lt, n32_ltm1, n32_10, n32_01, Nat.not_lt_zero, Nat.lt_irrefl, Nat.mul_zero, Nat.zero_mul, Nat.zero_add, Nat.add_zero, Nat.reduceEqDiff, Nat.one_ne_zero, Nat.zero_ne_one, ax_psh_none, ax_psh_some, true_and, and_true, and_false, false_and, not_true_eq_false, not_false_eq_true, true_imp_iff, false_imp_iff, imp_self, or_true, true_or, or_false, false_or, and_self, ite_true, ite_false, if_true, if_false]
        exact ih _ _ _
    · intro o1 o2 o3
      rw [b_Paper_mostOfRing_55]
      simp (disch := omega) only [b_Paper_mostOfRing_89, n32_add, n32_mul, n32_lt, n32_le, n32_eq, n32_clamp, n32_inT, n32_div, n32_rem, n32_m1, n32_m1', n32_m1lt, n32_ltm1, n32_10, n32_01, Nat.not_lt_zero, Nat.lt_irrefl, Nat.mul_zero, Nat.zero_mul, Nat.zero_add, Nat.add_zero, Nat.reduceEqDiff, Nat.one_ne_zero, Nat.zero_ne_one, ax_psh_none, ax_psh_some, true_and, and_true, and_false, false_and, not_true_eq_false, not_false_eq_true, true_imp_iff, false_imp_iff, imp_self, or_true, true_or, or_false, false_or, and_self, ite_true, ite_false, if_true, if_false]
      exact hq gi1 hO
  have key := loop_up (n := 4) (P := fun i => ∀ (gi1 : GI) o2 o5, OnlyI gi gi1 57 t → (∀ p, p < 10 → gi1 57 t p = n32 (sumN (fun k => if b (itk W T l c k) = p then 1 else 0) i)) → Runs (d + 1) (m_Paper_mostOfRing, 13, [some (.inr (.inr (some (3, t)))), some (.inl (n32 l)), o2, some (.inl (n32 (itk W T l c i))), some (.inl (n32 i)), o5], []) (gi1, g) Q) ?_ ?_
  · rw [e_Paper_mostOfRing]
    simp only [b_Paper_mostOfRing_0, b_Paper_mostOfRing_8, G_0_0 hG, G_0_1 hG, G_0_2 hG, G_0_3 hG, G_0_7 hG, G_0_10 hG, G_0_12 hG, G_0_13 hG, G_0_14 hG, G_0_15 hG, G_0_16 hG, G_0_17 hG, G_1_0 hG, G_1_2 hG, G_1_5 hG, G_2_4 hG, G_2_5 hG, G_3_5 hG, G_3_6 hG, G_3_7 hG, G_3_8 hG, G_3_9 hG, G_5_0 hG, G_5_1 hG, G_6_0 hG, G_6_1 hG, G_6_2 hG, G_6_9 hG, G_6_10 hG, G_6_11 hG, G_6_12 hG, G_6_13 hG, G_7_0 hG, G_7_5 hG, G_8_8 hG, G_8_9 hG, G_9_8 hG, G_9_9 hG, G_10_7 hG, G_10_8 hG, G_10_9 hG, G_10_10 hG, G_10_11 hG, G_11_0 hG, G_12_2 hG, G_12_3 hG, G_12_4 hG, G_12_5 hG, G_12_7 hG, G_12_8 hG, G_12_9 hG, G_12_12 hG, G_12_13 hG, G_12_14 hG, G_12_22 hG, G_12_23 hG, G_12_29 hG, G_12_30 hG, G_12_31 hG, G_12_37 hG, G_12_38 hG, G_12_39 hG, G_12_40 hG, G_12_41 hG, G_12_43 hG, G_12_46 hG, G_12_47 hG, G_12_48 hG, G_25 hG, G_26 hG, G_47 hG, G_58 hG, c_fill57, ax_psh_none, ax_psh_some, true_and, and_true, and_false, false_and, not_true_eq_false, not_false_eq_true, true_imp_iff, false_imp_iff, imp_self, or_true, true_or, or_false, false_or, and_self, ite_true, ite_false, if_true, if_false]
    refine key 0 (by omega) _ _ _ ?_ ?_
    · intro s a j q
      rw [rowF_at, if_neg (fun z => q ⟨z.1, z.2.1⟩)]
    · intro p hp
      rw [rowF_at, if_pos ⟨rfl, rfl, hp⟩]
      rfl
  · intro i hi ih gi1 o2 o5 hO h57
    have hit := ile i
    have hbi := hb _ hit
    have a54 : gi1 54 t (itk W T l c i) = n32 (b (itk W T l c i)) := (hO 54 t _ (by omega)).trans (h54 _ (by omega))
    have a59 : gi1 59 (8 * t + l) (itk W T l c i) = n32 (tk W T l (itk W T l c i)) := by
      rw [hO 59 _ _ (by omega), hway l (by omega) _ hit, ew]
    have v59 : ∀ x y, ax_wI gi1 57 t x y 59 (8 * t + l) (itk W T l c i) = n32 (tk W T l (itk W T l c i)) := fun x y => by rw [wI_at, if_neg (by omega), a59]
    rw [b_Paper_mostOfRing_13]
    simp (disch := omega) only [b_Paper_mostOfRing_19, hi, G_0_0 hG, G_0_1 hG, G_0_2 hG, G_0_3 hG, G_0_7 hG, G_0_10 hG, G_0_12 hG, G_0_13 hG, G_0_14 hG, G_0_15 hG, G_0_16 hG, G_0_17 hG, G_1_0 hG, G_1_2 hG, G_1_5 hG, G_2_4 hG, G_2_5 hG, G_3_5 hG, G_3_6 hG, G_3_7 hG, G_3_8 hG, G_3_9 hG, G_5_0 hG, G_5_1 hG, G_6_0 hG, G_6_1 hG, G_6_2 hG, G_6_9 hG, G_6_10 hG, G_6_11 hG, G_6_12 hG, G_6_13 hG, G_7_0 hG, G_7_5 hG, G_8_8 hG, G_8_9 hG, G_9_8 hG, G_9_9 hG, G_10_7 hG, G_10_8 hG, G_10_9 hG, G_10_10 hG, G_10_11 hG, G_11_0 hG, G_12_2 hG, G_12_3 hG, G_12_4 hG, G_12_5 hG, G_12_7 hG, G_12_8 hG, G_12_9 hG, G_12_12 hG, G_12_13 hG, G_12_14 hG, G_12_22 hG, G_12_23 hG, G_12_29 hG, G_12_30 hG, G_12_31 hG, G_12_37 hG, G_12_38 hG, G_12_39 hG, G_12_40 hG, G_12_41 hG, G_12_43 hG, G_12_46 hG, G_12_47 hG, G_12_48 hG, G_25 hG, G_26 hG, G_47 hG, G_58 hG, a54, h57 _ hbi, v59, n32_add, n32_mul, n32_lt, n32_le, n32_eq, n32_clamp, n32_inT, n32_div, n32_rem, n32_m1, n32_m1', n32_m1lt, n32_ltm1, n32_10, n32_01, Nat.not_lt_zero, Nat.lt_irrefl, Nat.mul_zero, Nat.zero_mul, Nat.zero_add, Nat.add_zero, Nat.reduceEqDiff, Nat.one_ne_zero, Nat.zero_ne_one, ax_psh_none, ax_psh_some, true_and, and_true, and_false, false_and, not_true_eq_false, not_false_eq_true, true_imp_iff, false_imp_iff, imp_self, or_true, true_or, or_false, false_or, and_self, ite_true, ite_false, if_true, if_false]
    refine ih _ _ _ ?_ ?_
    · intro s a j q
      rw [wI_at, if_neg (fun z => q ⟨z.1, z.2.1⟩)]
      exact hO s a j q
    · intro p hp
      rw [wI_at, sumN_succ]
      by_cases z : p = b (itk W T l c i)
      · rw [if_pos ⟨rfl, rfl, z⟩, if_pos z.symm, z]
      · rw [if_neg (by omega), if_neg (Ne.symm z), h57 p hp]
        rfl
  · intro gi1 o2 o5 hO h57
    rw [b_Paper_mostOfRing_13]
    simp (disch := omega) only [b_Paper_mostOfRing_49, n32_add, n32_mul, n32_lt, n32_le, n32_eq, n32_clamp, n32_inT, n32_div, n32_rem, n32_m1, n32_m1', n32_m1lt, n32_ltm1, n32_10, n32_01, Nat.not_lt_zero, Nat.lt_irrefl, Nat.mul_zero, Nat.zero_mul, Nat.zero_add, Nat.add_zero, Nat.reduceEqDiff, Nat.one_ne_zero, Nat.zero_ne_one, ax_psh_none, ax_psh_some, true_and, and_true, and_false, false_and, not_true_eq_false, not_false_eq_true, true_imp_iff, false_imp_iff, imp_self, or_true, true_or, or_false, false_or, and_self, ite_true, ite_false, if_true, if_false]
    exact key2 gi1 hO h57 _ _ _
/-- one thing's form is as another -/
def asB (W T : Nat) (b : Nat → Nat) (W' T' : Nat) (b' : Nat → Nat) (f : Nat) : Bool := decide (W = W') && decide (T = T') && allN (W * T) (fun c => decide (b' c = b (tk W T f c)))
theorem allN_true {p : Nat → Bool} : ∀ {n : Nat}, (∀ i, i < n → p i = true) → allN n p = true
  | 0, _ => rfl
  | n + 1, h => by
    unfold allN
    rw [h n (by omega), allN_true (fun i hi => h i (by omega))]
    rfl
theorem allN_false {p : Nat → Bool} : ∀ {n i : Nat}, i < n → p i = false → allN n p = false
  | 0, i, h, _ => absurd h (Nat.not_lt_zero i)
  | n + 1, i, h, hp => by
    unfold allN
    by_cases e : i = n
    · subst e
      rw [hp]
      rfl
    · rw [allN_false (i := i) (by omega) hp, Bool.and_false]
theorem c_isFormOf (d : Nat) {gi : GI} {g : AG} {Q : Option AV → AH → Prop} (hG : GOK g) {t r W T O W' T' O' f : Nat} {b b' : Nat → Nat} (ht6 : t < 6) (h : Pap gi t W T O b) (h' : ThC gi r W' T' O' b') (hf : f < 8) : ax_call (d + 3) m_Paper_isFormOf [.inr (.inr (some (3, t))), .inl (n32 f), .inr (.inr (some (2, r)))] (gi, g) Q = Q (some (.inl (b32 (isF W T f && asB W T b W' T' b' f)))) (gi, g) := by
  obtain ⟨hP, h2, h3, h54, hb, h55, h56⟩ := h
  obtain ⟨hw, ht, hlk, hW, hT, hway⟩ := hP
  obtain ⟨w0, w1, w2, hW', hT', hb'⟩ := h'
  have h64 := wt64 hW.2 hT.2
  rw [e_Paper_isFormOf]
  by_cases e1 : W = W'
  · subst e1
    by_cases e2 : T = T'
    · subst e2
      cases hF : isF W T f with
      | false =>
        simp (disch := omega) only [b_Paper_isFormOf_0, b_Paper_isFormOf_11, b_Paper_isFormOf_22, b_Paper_isFormOf_27, b_Paper_isFormOf_30, hw, ht, w0, w1, c_hasForm_n _ _ _ _ hf hw ht hlk hW.2 hT.2, hF, b32_0, Bool.false_and, n32_add, n32_mul, n32_lt, n32_le, n32_eq, n32_clamp, n32_inT, n32_div, n32_rem, n32_m1, n32_m1', n32_m1lt, n32_ltm1, n32_10, n32_01, Nat.not_lt_zero, Nat.lt_irrefl, Nat.mul_zero, Nat.zero_mul, Nat.zero_add, Nat.add_zero, Nat.reduceEqDiff, Nat.one_ne_zero, Nat.zero_ne_one, ax_psh_none, ax_psh_some, true_and, and_true, and_false, false_and, not_true_eq_false, not_false_eq_true, true_imp_iff, false_imp_iff, imp_self, or_true, true_or, or_false, false_or, and_self, ite_true, ite_false, if_true, if_false]
      | true =>
        have ew : wayF W T f = f := by unfold wayF; rw [if_pos hF]
        have key := loop_up (n := W * T) (P := fun i => (∀ c, c < i → b' c = b (tk W T f c)) → ∀ o1, Runs (d + 2) (m_Paper_isFormOf, 48, [some (.inr (.inr (some (3, t)))), o1, some (.inr (.inr (some (2, r)))), some (.inr (.inr (some (59, 8 * t + f)))), some (.inl (n32 (W * T))), some (.inl (n32 i))], []) (gi, g) Q = Q (some (.inl (b32 (true && asB W T b W T b' f)))) (gi, g)) ?_ ?_
        · simp (disch := omega) only [b_Paper_isFormOf_0, b_Paper_isFormOf_11, b_Paper_isFormOf_22, b_Paper_isFormOf_27, b_Paper_isFormOf_32, b_Paper_isFormOf_43, hw, ht, w0, w1, c_hasForm_n _ _ _ _ hf hw ht hlk hW.2 hT.2, hF, b32_1, G_0_0 hG, G_0_1 hG, G_0_2 hG, G_0_3 hG, G_0_7 hG, G_0_10 hG, G_0_12 hG, G_0_13 hG, G_0_14 hG, G_0_15 hG, G_0_16 hG, G_0_17 hG, G_1_0 hG, G_1_2 hG, G_1_5 hG, G_2_4 hG, G_2_5 hG, G_3_5 hG, G_3_6 hG, G_3_7 hG, G_3_8 hG, G_3_9 hG, G_5_0 hG, G_5_1 hG, G_6_0 hG, G_6_1 hG, G_6_2 hG, G_6_9 hG, G_6_10 hG, G_6_11 hG, G_6_12 hG, G_6_13 hG, G_7_0 hG, G_7_5 hG, G_8_8 hG, G_8_9 hG, G_9_8 hG, G_9_9 hG, G_10_7 hG, G_10_8 hG, G_10_9 hG, G_10_10 hG, G_10_11 hG, G_11_0 hG, G_12_2 hG, G_12_3 hG, G_12_4 hG, G_12_5 hG, G_12_7 hG, G_12_8 hG, G_12_9 hG, G_12_12 hG, G_12_13 hG, G_12_14 hG, G_12_22 hG, G_12_23 hG, G_12_29 hG, G_12_30 hG, G_12_31 hG, G_12_37 hG, G_12_38 hG, G_12_39 hG, G_12_40 hG, G_12_41 hG, G_12_43 hG, G_12_46 hG, G_12_47 hG, G_12_48 hG, G_25 hG, G_26 hG, G_47 hG, G_58 hG, c_Paper_area _ _ _ _ hw ht, n32_add, n32_mul, n32_lt, n32_le, n32_eq, n32_clamp, n32_inT, n32_div, n32_rem, n32_m1, n32_m1', n32_m1lt, n32_ltm1, n32_10, n32_01, Nat.not_lt_zero, Nat.lt_irrefl, Nat.mul_zero, Nat.zero_mul, Nat.zero_add, Nat.add_zero, Nat.reduceEqDiff, Nat.one_ne_zero, Nat.zero_ne_one, ax_psh_none, ax_psh_some, true_and, and_true, and_false, false_and, not_true_eq_false, not_false_eq_true, true_imp_iff, false_imp_iff, imp_self, or_true, true_or, or_false, false_or, and_self, ite_true, ite_false, if_true, if_false]
          exact key 0 (Nat.zero_le _) (fun c hc => absurd hc (Nat.not_lt_zero c)) _
        · intro i hi ih hpre o1
          have htk := tk_lt hW.2 hT.2 hf hF hi
          have hwi := hway f hf i hi
          rw [ew] at hwi
          have b1 := (hb' i (by omega)).2
          have b2 := hb _ htk
          rw [b_Paper_isFormOf_48]
          by_cases he : b' i = b (tk W T f i)
          · simp (disch := omega) only [b_Paper_isFormOf_55, b_Paper_isFormOf_76, hi, G_0_0 hG, G_0_1 hG, G_0_2 hG, G_0_3 hG, G_0_7 hG, G_0_10 hG, G_0_12 hG, G_0_13 hG, G_0_14 hG, G_0_15 hG, G_0_16 hG, G_0_17 hG, G_1_0 hG, G_1_2 hG, G_1_5 hG, G_2_4 hG, G_2_5 hG, G_3_5 hG, G_3_6 hG, G_3_7 hG, G_3_8 hG, G_3_9 hG, G_5_0 hG, G_5_1 hG, G_6_0 hG, G_6_1 hG, G_6_2 hG, G_6_9 hG, G_6_10 hG, G_6_11 hG, G_6_12 hG, G_6_13 hG, G_7_0 hG, G_7_5 hG, G_8_8 hG, G_8_9 hG, G_9_8 hG, G_9_9 hG, G_10_7 hG, G_10_8 hG, G_10_9 hG, G_10_10 hG, G_10_11 hG, G_11_0 hG, G_12_2 hG, G_12_3 hG, G_12_4 hG, G_12_5 hG, G_12_7 hG, G_12_8 hG, G_12_9 hG, G_12_12 hG, G_12_13 hG, G_12_14 hG, G_12_22 hG, G_12_23 hG, G_12_29 hG, G_12_30 hG, G_12_31 hG, G_12_37 hG, G_12_38 hG, G_12_39 hG, G_12_40 hG, G_12_41 hG, G_12_43 hG, G_12_46 hG, G_12_47 hG, G_12_48 hG, G_25 hG, G_26 hG, G_47 hG, G_58 hG, hwi, (hb' i (by omega)).1, h54 _ (by omega : tk W T f i < 64), he, n32_add, n32_mul, n32_lt, n32_le, n32_eq, n32_clamp, n32_inT, n32_div, n32_rem, n32_m1, n32_m1', n32_m1lt, n32_ltm1, n32_10, n32_01, Nat.not_lt_zero, Nat.lt_irrefl, Nat.mul_zero, Nat.zero_mul, Nat.zero_add, Nat.add_zero, Nat.reduceEqDiff, Nat.one_ne_zero, Nat.zero_ne_one, ax_psh_none, ax_psh_some, true_and, and_true, and_false, false_and, not_true_eq_false, not_false_eq_true, true_imp_iff, false_imp_iff, imp_self, or_true, true_or, or_false, false_or, and_self, ite_true, ite_false, if_true, if_false]
            exact ih (fun c hc => by
              by_cases z : c = i
              · subst z
                exact he
              · exact hpre c (by omega)) _
          · have ef : asB W T b W T b' f = false := by
              unfold asB
              rw [allN_false hi (decide_eq_false he), Bool.and_false]
            simp (disch := omega) only [b_Paper_isFormOf_55, b_Paper_isFormOf_74, hi, G_0_0 hG, G_0_1 hG, G_0_2 hG, G_0_3 hG, G_0_7 hG, G_0_10 hG, G_0_12 hG, G_0_13 hG, G_0_14 hG, G_0_15 hG, G_0_16 hG, G_0_17 hG, G_1_0 hG, G_1_2 hG, G_1_5 hG, G_2_4 hG, G_2_5 hG, G_3_5 hG, G_3_6 hG, G_3_7 hG, G_3_8 hG, G_3_9 hG, G_5_0 hG, G_5_1 hG, G_6_0 hG, G_6_1 hG, G_6_2 hG, G_6_9 hG, G_6_10 hG, G_6_11 hG, G_6_12 hG, G_6_13 hG, G_7_0 hG, G_7_5 hG, G_8_8 hG, G_8_9 hG, G_9_8 hG, G_9_9 hG, G_10_7 hG, G_10_8 hG, G_10_9 hG, G_10_10 hG, G_10_11 hG, G_11_0 hG, G_12_2 hG, G_12_3 hG, G_12_4 hG, G_12_5 hG, G_12_7 hG, G_12_8 hG, G_12_9 hG, G_12_12 hG, G_12_13 hG, G_12_14 hG, G_12_22 hG, G_12_23 hG, G_12_29 hG, G_12_30 hG, G_12_31 hG, G_12_37 hG, G_12_38 hG, G_12_39 hG, G_12_40 hG, G_12_41 hG, G_12_43 hG, G_12_46 hG, G_12_47 hG, G_12_48 hG, G_25 hG, G_26 hG, G_47 hG, G_58 hG, hwi, (hb' i (by omega)).1, h54 _ (by omega : tk W T f i < 64), he, ef, Bool.and_false, b32_0, n32_add, n32_mul, n32_lt, n32_le, n32_eq, n32_clamp, n32_inT, n32_div, n32_rem, n32_m1, n32_m1', n32_m1lt, n32_ltm1, n32_10, n32_01, Nat.not_lt_zero, Nat.lt_irrefl, Nat.mul_zero, Nat.zero_mul, Nat.zero_add, Nat.add_zero, Nat.reduceEqDiff, Nat.one_ne_zero, Nat.zero_ne_one, ax_psh_none, ax_psh_some, true_and, and_true, and_false, false_and, not_true_eq_false, not_false_eq_true, true_imp_iff, false_imp_iff, imp_self, or_true, true_or, or_false, false_or, and_self, ite_true, ite_false, if_true, if_false]
        · intro hpre o1
          have et : asB W T b W T b' f = true := by
            unfold asB
            rw [allN_true (fun i hi => decide_eq_true (hpre i hi))]
            simp
          rw [b_Paper_isFormOf_48]
          simp (disch := omega) only [b_Paper_isFormOf_82, et, Bool.and_self, b32_1, n32_add, n32_mul, n32_lt, n32_le, n32_eq, n32_clamp, n32_inT, n32_div, n32_rem, n32_m1, n32_m1', n32_m1lt, n32_ltm1, n32_10, n32_01, Nat.not_lt_zero, Nat.lt_irrefl, Nat.mul_zero, Nat.zero_mul, Nat.zero_add, Nat.add_zero, Nat.reduceEqDiff, Nat.one_ne_zero, Nat.zero_ne_one, ax_psh_none, ax_psh_some, true_and, and_true, and_false, false_and, not_true_eq_false, not_false_eq_true, true_imp_iff, false_imp_iff, imp_self, or_true, true_or, or_false, false_or, and_self, ite_true, ite_false, if_true, if_false]
    · have ef : asB W T b W T' b' f = false := by
        unfold asB
        rw [decide_eq_false e2]
        simp
      have e2' : ¬ T' = T := fun z => e2 z.symm
      simp (disch := omega) only [b_Paper_isFormOf_0, b_Paper_isFormOf_11, b_Paper_isFormOf_30, hw, ht, w0, w1, e2', ef, Bool.and_false, b32_0, n32_add, n32_mul, n32_lt, n32_le, n32_eq, n32_clamp, n32_inT, n32_div, n32_rem, n32_m1, n32_m1', n32_m1lt, n32_ltm1, n32_10, n32_01, Nat.not_lt_zero, Nat.lt_irrefl, Nat.mul_zero, Nat.zero_mul, Nat.zero_add, Nat.add_zero, Nat.reduceEqDiff, Nat.one_ne_zero, Nat.zero_ne_one, ax_psh_none, ax_psh_some, true_and, and_true, and_false, false_and, not_true_eq_false, not_false_eq_true, true_imp_iff, false_imp_iff, imp_self, or_true, true_or, or_false, false_or, and_self, ite_true, ite_false, if_true, if_false]
  · have ef : asB W T b W' T' b' f = false := by
      unfold asB
      rw [decide_eq_false e1]
      simp
    have e1' : ¬ W' = W := fun z => e1 z.symm
    simp (disch := omega) only [b_Paper_isFormOf_0, b_Paper_isFormOf_30, hw, ht, w0, w1, e1', ef, Bool.and_false, b32_0, n32_add, n32_mul, n32_lt, n32_le, n32_eq, n32_clamp, n32_inT, n32_div, n32_rem, n32_m1, n32_m1', n32_m1lt, n32_ltm1, n32_10, n32_01, Nat.not_lt_zero, Nat.lt_irrefl, Nat.mul_zero, Nat.zero_mul, Nat.zero_add, Nat.add_zero, Nat.reduceEqDiff, Nat.one_ne_zero, Nat.zero_ne_one, ax_psh_none, ax_psh_some, true_and, and_true, and_false, false_and, not_true_eq_false, not_false_eq_true, true_imp_iff, false_imp_iff, imp_self, or_true, true_or, or_false, false_or, and_self, ite_true, ite_false, if_true, if_false]
theorem c_Paper_formsAs (d : Nat) {gi : GI} {g : AG} {Q : Option AV → AH → Prop} (hG : GOK g) {t r W T O W' T' O' : Nat} {b b' : Nat → Nat} (ht6 : t < 6) (h : Pap gi t W T O b) (h' : ThC gi r W' T' O' b') : ax_call (d + 4) m_Paper_formsAs [.inr (.inr (some (3, t))), .inr (.inr (some (2, r)))] (gi, g) Q = Q (some (.inl (n32 (maskS (fun f => isF W T f && asB W T b W' T' b' f) 8)))) (gi, g) := by
  have key := loop_up (n := 8) (P := fun i => Runs (d + 3) (m_Paper_formsAs, 4, [some (.inr (.inr (some (3, t)))), some (.inr (.inr (some (2, r)))), some (.inl (n32 (maskS (fun f => isF W T f && asB W T b W' T' b' f) i))), some (.inl (n32 i))], []) (gi, g) Q = Q (some (.inl (n32 (maskS (fun f => isF W T f && asB W T b W' T' b' f) 8)))) (gi, g)) ?_ ?_
  · rw [e_Paper_formsAs, b_Paper_formsAs_0]
    exact key 0 (by omega)
  · intro i hi ih
    rw [b_Paper_formsAs_4]
    cases hz : (isF W T i && asB W T b W' T' b' i) with
    | true =>
      simp (disch := omega) only [b_Paper_formsAs_10, b_Paper_formsAs_16, b_Paper_formsAs_19, b_Paper_formsAs_25, hi, c_isFormOf _ hG ht6 h h' hi, hz, b32_1, sl_ok (by omega : i < 10), or_ok, n32_add, n32_mul, n32_lt, n32_le, n32_eq, n32_clamp, n32_inT, n32_div, n32_rem, n32_m1, n32_m1', n32_m1lt, n32_ltm1, n32_10, n32_01, Nat.not_lt_zero, Nat.lt_irrefl, Nat.mul_zero, Nat.zero_mul, Nat.zero_add, Nat.add_zero, Nat.reduceEqDiff, Nat.one_ne_zero, Nat.zero_ne_one, ax_psh_none, ax_psh_some, true_and, and_true, and_false, false_and, not_true_eq_false, not_false_eq_true, true_imp_iff, false_imp_iff, imp_self, or_true, true_or, or_false, false_or, and_self, ite_true, ite_false, if_true, if_false]
      have e : maskS (fun f => isF W T f && asB W T b W' T' b' f) (i + 1) = maskS (fun f => isF W T f && asB W T b W' T' b' f) i ||| 2 ^ i := by
        show (if (isF W T i && asB W T b W' T' b' i) = true then _ else _) = _
        rw [if_pos hz]
      rw [← e]
      exact ih
    | false =>
      simp (disch := omega) only [b_Paper_formsAs_10, b_Paper_formsAs_16, b_Paper_formsAs_25, hi, c_isFormOf _ hG ht6 h h' hi, hz, b32_0, n32_add, n32_mul, n32_lt, n32_le, n32_eq, n32_clamp, n32_inT, n32_div, n32_rem, n32_m1, n32_m1', n32_m1lt, n32_ltm1, n32_10, n32_01, Nat.not_lt_zero, Nat.lt_irrefl, Nat.mul_zero, Nat.zero_mul, Nat.zero_add, Nat.add_zero, Nat.reduceEqDiff, Nat.one_ne_zero, Nat.zero_ne_one, ax_psh_none, ax_psh_some, true_and, and_true, and_false, false_and, not_true_eq_false, not_false_eq_true, true_imp_iff, false_imp_iff, imp_self, or_true, true_or, or_false, false_or, and_self, ite_true, ite_false, if_true, if_false]
      have e : maskS (fun f => isF W T f && asB W T b W' T' b' f) (i + 1) = maskS (fun f => isF W T f && asB W T b W' T' b' f) i := by
        show (if (isF W T i && asB W T b W' T' b' i) = true then _ else _) = _
        rw [if_neg (by rw [hz]; decide)]
      rw [← e]
      exact ih
  · rw [b_Paper_formsAs_4]
    simp (disch := omega) only [b_Paper_formsAs_31, n32_add, n32_mul, n32_lt, n32_le, n32_eq, n32_clamp, n32_inT, n32_div, n32_rem, n32_m1, n32_m1', n32_m1lt, n32_ltm1, n32_10, n32_01, Nat.not_lt_zero, Nat.lt_irrefl, Nat.mul_zero, Nat.zero_mul, Nat.zero_add, Nat.add_zero, Nat.reduceEqDiff, Nat.one_ne_zero, Nat.zero_ne_one, ax_psh_none, ax_psh_some, true_and, and_true, and_false, false_and, not_true_eq_false, not_false_eq_true, true_imp_iff, false_imp_iff, imp_self, or_true, true_or, or_false, false_or, and_self, ite_true, ite_false, if_true, if_false]
