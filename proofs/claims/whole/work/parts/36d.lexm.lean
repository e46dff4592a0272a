/-! the reference splits a text: its loop -/
theorem sm_run {B : Nat → Nat} {n a d : Nat} {g : AG} {gi : GI} {Q : Option AV → AH → Prop} (hG : GOK g) (hT : TapeM gi B) (hn : n ≤ 400) (ha : a < n) (o5 : Option AV) : Runs (d + 1) (m_M_splits, 31, [some (.inr (.inr (some (12, 0)))), some (.inl (n32 n)), some (.inl (n32 a)), some (.inl (gi 68 0 a)), none, o5], []) (gi, g) Q = Runs (d + 1) (m_M_splits, 100, [some (.inr (.inr (some (12, 0)))), some (.inl (n32 n)), some (.inl (n32 a)), some (.inl (gi 68 0 a)), some (.inl (n32 (toE B n a))), o5], []) (gi, g) Q := by
  have ht := hT a (by omega)
  rcases kb_cases (B a) with hk | hk | hk
  · have e : toE B n a = rEnd B n 1 400 (a + 1) := by
      unfold toE
      rw [if_neg (by omega), hk]
    have t1 : decide (kb (B a) = 1) = true := decide_eq_true hk
    have t2 : decide (kb (B a) = 2) = false := decide_eq_false (by omega)
    simp (disch := omega) only [b_M_splits_31, b_M_splits_40, b_M_splits_68, b_M_splits_72, c_isSmall _ _ _ _ ht, c_isDigit _ _ _ _ ht, t1, t2, b32_1, b32_0, n32_add, n32_mul, n32_lt, n32_le, n32_eq, n32_clamp, n32_inT, n32_div, n32_rem, n32_m1, n32_m1', n32_m1lt, n32_ltm1, n32_10, n32_01, Nat.not_lt_zero, Nat.lt_irrefl, Nat.mul_zero, Nat.zero_mul, Nat.zero_add, Nat.add_zero, Nat.reduceEqDiff, Nat.one_ne_zero, Nat.zero_ne_one, ax_psh_none, ax_psh_some, true_and, and_true, and_false, false_and, not_true_eq_false, not_false_eq_true, true_imp_iff, false_imp_iff, imp_self, or_true, true_or, or_false, false_or, and_self, ite_true, ite_false, if_true, if_false]
    rw [e]
    exact sm_run75 hG hT hn 400 (a + 1) (by omega) (by omega) _
  · have e : toE B n a = rEnd B n 2 400 (a + 1) := by
      unfold toE
      rw [if_neg (by omega), hk]
    have t1 : decide (kb (B a) = 1) = false := decide_eq_false (by omega)
    have t2 : decide (kb (B a) = 2) = true := decide_eq_true hk
    simp (disch := omega) only [b_M_splits_31, b_M_splits_40, c_isSmall _ _ _ _ ht, t2, b32_1, n32_add, n32_mul, n32_lt, n32_le, n32_eq, n32_clamp, n32_inT, n32_div, n32_rem, n32_m1, n32_m1', n32_m1lt, n32_ltm1, n32_10, n32_01, Nat.not_lt_zero, Nat.lt_irrefl, Nat.mul_zero, Nat.zero_mul, Nat.zero_add, Nat.add_zero, Nat.reduceEqDiff, Nat.one_ne_zero, Nat.zero_ne_one, ax_psh_none, ax_psh_some, true_and, and_true, and_false, false_and, not_true_eq_false, not_false_eq_true, true_imp_iff, false_imp_iff, imp_self, or_true, true_or, or_false, false_or, and_self, ite_true, ite_false, if_true, if_false]
    rw [sm_run43 hG hT hn 400 (a + 1) (by omega) (by omega)]
    simp (disch := omega) only [b_M_splits_68, b_M_splits_72, c_isDigit _ _ _ _ ht, t1, b32_0, n32_add, n32_mul, n32_lt, n32_le, n32_eq, n32_clamp, n32_inT, n32_div, n32_rem, n32_m1, n32_m1', n32_m1lt, n32_ltm1, n32_10, n32_01, Nat.not_lt_zero, Nat.lt_irrefl, Nat.mul_zero, Nat.zero_mul, Nat.zero_add, Nat.add_zero, Nat.reduceEqDiff, Nat.one_ne_zero, Nat.zero_ne_one, ax_psh_none, ax_psh_some, true_and, and_true, and_false, false_and, not_true_eq_false, not_false_eq_true, true_imp_iff, false_imp_iff, imp_self, or_true, true_or, or_false, false_or, and_self, ite_true, ite_false, if_true, if_false]
    rw [e]
  · have e : toE B n a = a + 1 := by
      unfold toE
      rw [if_pos hk]
    have t1 : decide (kb (B a) = 1) = false := decide_eq_false (by omega)
    have t2 : decide (kb (B a) = 2) = false := decide_eq_false (by omega)
    simp (disch := omega) only [b_M_splits_31, b_M_splits_40, b_M_splits_68, b_M_splits_72, c_isSmall _ _ _ _ ht, c_isDigit _ _ _ _ ht, t1, t2, b32_0, e, n32_add, n32_mul, n32_lt, n32_le, n32_eq, n32_clamp, n32_inT, n32_div, n32_rem, n32_m1, n32_m1', n32_m1lt, n32_ltm1, n32_10, n32_01, Nat.not_lt_zero, Nat.lt_irrefl, Nat.mul_zero, Nat.zero_mul, Nat.zero_add, Nat.add_zero, Nat.reduceEqDiff, Nat.one_ne_zero, Nat.zero_ne_one, ax_psh_none, ax_psh_some, true_and, and_true, and_false, false_and, not_true_eq_false, not_false_eq_true, true_imp_iff, false_imp_iff, imp_self, or_true, true_or, or_false, false_or, and_self, ite_true, ite_false, if_true, if_false]
def tokG (gi : GI) (i : Nat) (p c v : Int32) : GI := ax_wI (ax_wI (ax_wI gi 72 0 i p) 70 0 i c) 71 0 i v
theorem tokG_at (gi : GI) (i : Nat) (p c v : Int32) (j : Nat) : tokG gi i p c v 70 0 j = (if j = i then c else gi 70 0 j) ∧ tokG gi i p c v 71 0 j = (if j = i then v else gi 71 0 j) ∧ tokG gi i p c v 72 0 j = (if j = i then p else gi 72 0 j) := by
  unfold tokG
  simp [wI_at]
theorem Fr_tok {gi : GI} {i : Nat} {p c v : Int32} : Fr smMod gi (tokG gi i p c v) := Fr_wI (Fr_wI (Fr_wI (Fr_refl _ _) rfl) rfl) rfl
theorem tok_eq (gi : GI) (i : Nat) (p c v w : Int32) : ax_wI (ax_wI (ax_wI (ax_wI gi 72 0 i p) 71 0 i w) 70 0 i c) 71 0 i v = tokG gi i p c v := by
  funext s a j
  unfold tokG
  simp only [wI_at]
  by_cases h1 : s = 71 ∧ a = 0 ∧ j = i
  · rw [if_pos h1, if_pos h1]
  · rw [if_neg h1, if_neg h1, if_neg h1]
theorem tok_eq2 (gi : GI) (i : Nat) (p c w : Int32) : ax_wI (ax_wI (ax_wI gi 72 0 i p) 71 0 i w) 70 0 i c = tokG gi i p c w := by
  funext s a j
  unfold tokG
  simp only [wI_at]
  by_cases h1 : s = 71
  · subst h1
    simp
  · simp [h1]
theorem sm_tok {B : Nat → Nat} {n a i d : Nat} {g : AG} {gi : GI} {Q : Option AV → AH → Prop} (hG : GOK g) (hT : TapeM gi B) (hW : WordsOK gi) (hn : n ≤ 400) (ha : a < n) (hi : gi 12 0 15 = n32 i) (hi4 : i ≤ 400) (o5 : Option AV)
    (hq : ∀ (v : Nat) (o2 o5 : Option AV), (tcd B n a = 50 → v < 2147483648 ∧ min v 1001 = tvl B n a) → Runs (d + 2) (m_M_splits, 247, [some (.inr (.inr (some (12, 0)))), some (.inl (n32 n)), o2, some (.inl (gi 68 0 a)), some (.inl (n32 (toE B n a))), o5], []) (tokG gi i (n32 a) (n32 (tcd B n a)) (n32 v), g) Q) :
    Runs (d + 2) (m_M_splits, 100, [some (.inr (.inr (some (12, 0)))), some (.inl (n32 n)), some (.inl (n32 a)), some (.inl (gi 68 0 a)), some (.inl (n32 (toE B n a))), o5], []) (gi, g) Q := by
  have ht := hT a (by omega)
  have g1 := toE_gt (B := B) (n := n) (a := a)
  have g2 := toE_n (B := B) ha
  have fr1 : Fr smMod gi (ax_wI (ax_wI gi 72 0 i (n32 a)) 71 0 i (n32 0)) := Fr_wI (Fr_wI (Fr_refl _ _) rfl) rfl
  rcases kb_cases (B a) with hk | hk | hk
  · have e0 : tcd B n a = 50 := by
      unfold tcd
      rw [if_neg (by omega), if_pos hk]
    have hd : ∀ q, a ≤ q → q < toE B n a → kb (B q) = 1 := by
      intro q q1 q2
      by_cases e : q = a
      · subst e
        exact hk
      · unfold toE at q2
        rw [if_neg (by omega)] at q2
        rw [rEnd_k q (by omega) q2, hk]
    have hle := yV_le (B := B) (f := toE B n a - a) (i := a) (y := 0) (by omega) (fun j h1 h2 => (kb_digit (hd j h1 (by omega))).2)
    have t1 : decide (kb (B a) = 1) = true := decide_eq_true hk
    have t2 : decide (kb (B a) = 2) = false := decide_eq_false (by omega)
    simp (disch := omega) only [b_M_splits_100, b_M_splits_132, b_M_splits_145, b_M_splits_149, b_M_splits_152, b_M_splits_165, G_0_0 hG, G_0_1 hG, G_0_2 hG, G_0_3 hG, G_0_7 hG, G_0_10 hG, G_0_12 hG, G_0_13 hG, G_0_14 hG, G_0_15 hG, G_0_16 hG, G_0_17 hG, G_1_0 hG, G_1_2 hG, G_1_5 hG, G_2_4 hG, G_2_5 hG, G_3_5 hG, G_3_6 hG, G_3_7 hG, G_3_8 hG, G_3_9 hG, G_5_0 hG, G_5_1 hG, G_6_0 hG, G_6_1 hG, G_6_2 hG, G_6_9 hG, G_6_10 hG, G_6_11 hG, G_6_12 hG, G_6_13 hG, G_7_0 hG, G_7_5 hG, G_8_8 hG, G_8_9 hG, G_9_8 hG, G_9_9 hG, G_10_7 hG, G_10_8 hG, G_10_9 hG, G_10_10 hG, G_10_11 hG, G_11_0 hG, G_12_2 hG, G_12_3 hG, G_12_4 hG, G_12_5 hG, G_12_7 hG, G_12_8 hG, G_12_9 hG, G_12_12 hG, G_12_13 hG, G_12_14 hG, G_12_22 hG, G_12_23 hG, G_12_29 hG, G_12_30 hG, G_12_31 hG, G_12_37 hG, G_12_38 hG, G_12_39 hG, G_12_40 hG, G_12_41 hG, G_12_43 hG, G_12_46 hG, G_12_47 hG, G_12_48 hG, G_25 hG, G_26 hG, G_47 hG, G_58 hG, hi, wI_at, c_isSmall _ _ _ _ ht, c_isDigit _ _ _ _ ht, t1, t2, b32_1, b32_0, n32_add, n32_mul, n32_lt, n32_le, n32_eq, n32_clamp, n32_inT, n32_div, n32_rem, n32_m1, n32_m1', n32_m1lt, n32_ltm1, n32_10, n32_01, Nat.not_lt_zero, Nat.lt_irrefl, Nat.mul_zero, Nat.zero_mul, Nat.zero_add, Nat.add_zero, Nat.reduceEqDiff, Nat.one_ne_zero, Nat.zero_ne_one, ax_psh_none, ax_psh_some, true_and, and_true, and_false, false_and, not_true_eq_false, not_false_eq_true, true_imp_iff, false_imp_iff, imp_self, or_true, true_or, or_false, false_or, and_self, ite_true, ite_false, if_true, if_false, reduceIte, Nat.reduceEqDiff, Nat.reduceLT, Nat.reduceAdd, Nat.reduceMul, Nat.reduceSub, Nat.reduceDiv, Nat.reduceMod, Nat.reduceLeDiff]
    rw [tok_eq2]
    have w71 : tokG gi i (n32 a) (n32 50) (n32 0) 71 0 i = n32 0 := by simp [tokG, wI_at]
    rw [← wI_same w71]
    have hT' : TapeM (tokG gi i (n32 a) (n32 50) (n32 0)) B := TapeM_fr hT Fr_tok
    refine sm_num (d := d + 1) hG hT' (by omega) ht hk (by simp [tokG, wI_at, hi]) hi4 (toE B n a - a) a 0 (by omega) hd (by omega) _ ?_
    · intro o2 o5
      have := hq (yV B (toE B n a - a) a 0) o2 o5 (fun _ => ⟨by omega, by
        rw [yV_nV (x := 0) rfl]
        unfold tvl
        rw [if_pos hk]⟩)
      rw [e0] at this
      have e9 : ax_wI (tokG gi i (n32 a) (n32 50) (n32 0)) 71 0 i (n32 (yV B (toE B n a - a) a 0)) = tokG gi i (n32 a) (n32 50) (n32 (yV B (toE B n a - a) a 0)) := by
        unfold tokG
        rw [ww71]
      rw [e9]
      exact this
  · have e0 : tcd B n a = codeOf (sl B a (toE B n a)) := by
      unfold tcd
      rw [if_pos hk]
    have hc := codeOf_le (sl B a (toE B n a))
    have t1 : decide (kb (B a) = 1) = false := decide_eq_false (by omega)
    have t2 : decide (kb (B a) = 2) = true := decide_eq_true hk
    have hlt : a < toE B n a := g1
    simp (disch := omega) only [b_M_splits_100, b_M_splits_132, b_M_splits_135, b_M_splits_142, b_M_splits_165, G_0_0 hG, G_0_1 hG, G_0_2 hG, G_0_3 hG, G_0_7 hG, G_0_10 hG, G_0_12 hG, G_0_13 hG, G_0_14 hG, G_0_15 hG, G_0_16 hG, G_0_17 hG, G_1_0 hG, G_1_2 hG, G_1_5 hG, G_2_4 hG, G_2_5 hG, G_3_5 hG, G_3_6 hG, G_3_7 hG, G_3_8 hG, G_3_9 hG, G_5_0 hG, G_5_1 hG, G_6_0 hG, G_6_1 hG, G_6_2 hG, G_6_9 hG, G_6_10 hG, G_6_11 hG, G_6_12 hG, G_6_13 hG, G_7_0 hG, G_7_5 hG, G_8_8 hG, G_8_9 hG, G_9_8 hG, G_9_9 hG, G_10_7 hG, G_10_8 hG, G_10_9 hG, G_10_10 hG, G_10_11 hG, G_11_0 hG, G_12_2 hG, G_12_3 hG, G_12_4 hG, G_12_5 hG, G_12_7 hG, G_12_8 hG, G_12_9 hG, G_12_12 hG, G_12_13 hG, G_12_14 hG, G_12_22 hG, G_12_23 hG, G_12_29 hG, G_12_30 hG, G_12_31 hG, G_12_37 hG, G_12_38 hG, G_12_39 hG, G_12_40 hG, G_12_41 hG, G_12_43 hG, G_12_46 hG, G_12_47 hG, G_12_48 hG, G_25 hG, G_26 hG, G_47 hG, G_58 hG, hi, wI_at, c_isSmall _ _ _ _ ht, c_M_wordOf _ hG (WordsOK_fr hW fr1) (TapeM_fr hT fr1) (Nat.le_of_lt g1) (by omega : toE B n a ≤ 400), t2, b32_1, n32_add, n32_mul, n32_lt, n32_le, n32_eq, n32_clamp, n32_inT, n32_div, n32_rem, n32_m1, n32_m1', n32_m1lt, n32_ltm1, n32_10, n32_01, Nat.not_lt_zero, Nat.lt_irrefl, Nat.mul_zero, Nat.zero_mul, Nat.zero_add, Nat.add_zero, Nat.reduceEqDiff, Nat.one_ne_zero, Nat.zero_ne_one, ax_psh_none, ax_psh_some, true_and, and_true, and_false, false_and, not_true_eq_false, not_false_eq_true, true_imp_iff, false_imp_iff, imp_self, or_true, true_or, or_false, false_or, and_self, ite_true, ite_false, if_true, if_false, reduceIte, Nat.reduceEqDiff, Nat.reduceLT, Nat.reduceAdd, Nat.reduceMul, Nat.reduceSub, Nat.reduceDiv, Nat.reduceMod, Nat.reduceLeDiff]
    rw [tok_eq2, b_M_splits_169]
    simp (disch := omega) only [b_M_splits_176, b_M_splits_180, hlt, c_isDigit _ _ _ _ ht, t1, b32_0, n32_add, n32_mul, n32_lt, n32_le, n32_eq, n32_clamp, n32_inT, n32_div, n32_rem, n32_m1, n32_m1', n32_m1lt, n32_ltm1, n32_10, n32_01, Nat.not_lt_zero, Nat.lt_irrefl, Nat.mul_zero, Nat.zero_mul, Nat.zero_add, Nat.add_zero, Nat.reduceEqDiff, Nat.one_ne_zero, Nat.zero_ne_one, ax_psh_none, ax_psh_some, true_and, and_true, and_false, false_and, not_true_eq_false, not_false_eq_true, true_imp_iff, false_imp_iff, imp_self, or_true, true_or, or_false, false_or, and_self, ite_true, ite_false, if_true, if_false]
    rw [← e0]
    exact hq 0 _ _ (fun z => by omega)
  · have e0 : tcd B n a = 100 + B a := by
      unfold tcd
      rw [if_neg (by omega), if_neg (by omega)]
    have t1 : decide (kb (B a) = 1) = false := decide_eq_false (by omega)
    have t2 : decide (kb (B a) = 2) = false := decide_eq_false (by omega)
    have hlt : a < toE B n a := g1
    have hand : gi 68 0 a &&& n32 255 = n32 (B a) := ht.2.2.2
    simp (disch := omega) only [b_M_splits_100, b_M_splits_132, b_M_splits_145, b_M_splits_149, b_M_splits_157, b_M_splits_165, G_0_0 hG, G_0_1 hG, G_0_2 hG, G_0_3 hG, G_0_7 hG, G_0_10 hG, G_0_12 hG, G_0_13 hG, G_0_14 hG, G_0_15 hG, G_0_16 hG, G_0_17 hG, G_1_0 hG, G_1_2 hG, G_1_5 hG, G_2_4 hG, G_2_5 hG, G_3_5 hG, G_3_6 hG, G_3_7 hG, G_3_8 hG, G_3_9 hG, G_5_0 hG, G_5_1 hG, G_6_0 hG, G_6_1 hG, G_6_2 hG, G_6_9 hG, G_6_10 hG, G_6_11 hG, G_6_12 hG, G_6_13 hG, G_7_0 hG, G_7_5 hG, G_8_8 hG, G_8_9 hG, G_9_8 hG, G_9_9 hG, G_10_7 hG, G_10_8 hG, G_10_9 hG, G_10_10 hG, G_10_11 hG, G_11_0 hG, G_12_2 hG, G_12_3 hG, G_12_4 hG, G_12_5 hG, G_12_7 hG, G_12_8 hG, G_12_9 hG, G_12_12 hG, G_12_13 hG, G_12_14 hG, G_12_22 hG, G_12_23 hG, G_12_29 hG, G_12_30 hG, G_12_31 hG, G_12_37 hG, G_12_38 hG, G_12_39 hG, G_12_40 hG, G_12_41 hG, G_12_43 hG, G_12_46 hG, G_12_47 hG, G_12_48 hG, G_25 hG, G_26 hG, G_47 hG, G_58 hG, hi, wI_at, c_isSmall _ _ _ _ ht, c_isDigit _ _ _ _ ht, t1, t2, hand, b32_0, n32_add, n32_mul, n32_lt, n32_le, n32_eq, n32_clamp, n32_inT, n32_div, n32_rem, n32_m1, n32_m1', n32_m1lt, n32_ltm1, n32_10, n32_01, Nat.not_lt_zero, Nat.lt_irrefl, Nat.mul_zero, Nat.zero_mul, Nat.zero_add, Nat.add_zero, Nat.reduceEqDiff, Nat.one_ne_zero, Nat.zero_ne_one, ax_psh_none, ax_psh_some, true_and, and_true, and_false, false_and, not_true_eq_false, not_false_eq_true, true_imp_iff, false_imp_iff, imp_self, or_true, true_or, or_false, false_or, and_self, ite_true, ite_false, if_true, if_false, reduceIte, Nat.reduceEqDiff, Nat.reduceLT, Nat.reduceAdd, Nat.reduceMul, Nat.reduceSub, Nat.reduceDiv, Nat.reduceMod, Nat.reduceLeDiff]
    rw [tok_eq2, b_M_splits_169]
    simp (disch := omega) only [b_M_splits_176, b_M_splits_180, hlt, c_isDigit _ _ _ _ ht, t1, b32_0, n32_add, n32_mul, n32_lt, n32_le, n32_eq, n32_clamp, n32_inT, n32_div, n32_rem, n32_m1, n32_m1', n32_m1lt, n32_ltm1, n32_10, n32_01, Nat.not_lt_zero, Nat.lt_irrefl, Nat.mul_zero, Nat.zero_mul, Nat.zero_add, Nat.add_zero, Nat.reduceEqDiff, Nat.one_ne_zero, Nat.zero_ne_one, ax_psh_none, ax_psh_some, true_and, and_true, and_false, false_and, not_true_eq_false, not_false_eq_true, true_imp_iff, false_imp_iff, imp_self, or_true, true_or, or_false, false_or, and_self, ite_true, ite_false, if_true, if_false]
    rw [← e0]
    exact hq 0 _ _ (fun z => by omega)
theorem sm_loop {B : Nat → Nat} {n d : Nat} {g : AG} {Q : Option AV → AH → Prop} (hG : GOK g) (hn : n ≤ 400) : ∀ f (gi : GI) (a i : Nat) (o3 o5 : Option AV), n ≤ a + f → a ≤ n → i ≤ a → WordsOK gi → TapeM gi B → gi 12 0 15 = n32 i → ∀ o4,
    (∀ gi', Fr smMod gi gi' → gi' 12 0 15 = n32 (i + (lexN B n f a).length) → StM (gi' 70 0) (gi' 71 0) (gi' 72 0) n i (lexN B n f a) → (∀ j, j < i → gi' 70 0 j = gi 70 0 j ∧ gi' 71 0 j = gi 71 0 j ∧ gi' 72 0 j = gi 72 0 j) → Q none (gi', g)) →
    Runs (d + 2) (m_M_splits, 7, [some (.inr (.inr (some (12, 0)))), some (.inl (n32 n)), some (.inl (n32 a)), o3, o4, o5], []) (gi, g) Q := by
  have fin : ∀ (gi : GI) (a i : Nat) (o3 o4 o5 : Option AV), ¬ a < n → a ≤ n → i ≤ a → gi 12 0 15 = n32 i → (∀ gi', Fr smMod gi gi' → gi' 12 0 15 = n32 (i + 0) → StM (gi' 70 0) (gi' 71 0) (gi' 72 0) n i [] → (∀ j, j < i → gi' 70 0 j = gi 70 0 j ∧ gi' 71 0 j = gi 71 0 j ∧ gi' 72 0 j = gi 72 0 j) → Q none (gi', g)) → Runs (d + 2) (m_M_splits, 7, [some (.inr (.inr (some (12, 0)))), some (.inl (n32 n)), some (.inl (n32 a)), o3, o4, o5], []) (gi, g) Q := by
    intro gi a i o3 o4 o5 hlt ha hia hi hq
    rw [b_M_splits_7]
    simp (disch := omega) only [b_M_splits_263, hlt, G_0_0 hG, G_0_1 hG, G_0_2 hG, G_0_3 hG, G_0_7 hG, G_0_10 hG, G_0_12 hG, G_0_13 hG, G_0_14 hG, G_0_15 hG, G_0_16 hG, G_0_17 hG, G_1_0 hG, G_1_2 hG, G_1_5 hG, G_2_4 hG, G_2_5 hG, G_3_5 hG, G_3_6 hG, G_3_7 hG, G_3_8 hG, G_3_9 hG, G_5_0 hG, G_5_1 hG, G_6_0 hG, G_6_1 hG, G_6_2 hG, G_6_9 hG, G_6_10 hG, G_6_11 hG, G_6_12 hG, G_6_13 hG, G_7_0 hG, G_7_5 hG, G_8_8 hG, G_8_9 hG, G_9_8 hG, G_9_9 hG, G_10_7 hG, G_10_8 hG, G_10_9 hG, G_10_10 hG, G_10_11 hG, G_11_0 hG, G_12_2 hG, G_12_3 hG, G_12_4 hG, G_12_5 hG, G_12_7 hG, G_12_8 hG, G_12_9 hG, G_12_12 hG, G_12_13 hG, G_12_14 hG, G_12_22 hG, G_12_23 hG, G_12_29 hG, G_12_30 hG, G_12_31 hG, G_12_37 hG, G_12_38 hG, G_12_39 hG, G_12_40 hG, G_12_41 hG, G_12_43 hG, G_12_46 hG, G_12_47 hG, G_12_48 hG, G_25 hG, G_26 hG, G_47 hG, G_58 hG, hi, wI_at, n32_add, n32_mul, n32_lt, n32_le, n32_eq, n32_clamp, n32_inT, n32_div, n32_rem, n32_m1, n32_m1', n32_m1lt, n32_ltm1, n32_10, n32_01, Nat.not_lt_zero, Nat.lt_irrefl, Nat.mul_zero, Nat.zero_mul, Nat.zero_add, Nat.add_zero, Nat.reduceEqDiff, Nat.one_ne_zero, Nat.zero_ne_one, ax_psh_none, ax_psh_some, true_and, and_true, and_false, false_and, not_true_eq_false, not_false_eq_true, true_imp_iff, false_imp_iff, imp_self, or_true, true_or, or_false, false_or, and_self, ite_true, ite_false, if_true, if_false, reduceIte, Nat.reduceEqDiff, Nat.reduceLT, Nat.reduceAdd, Nat.reduceMul, Nat.reduceSub, Nat.reduceDiv, Nat.reduceMod, Nat.reduceLeDiff]
    refine hq _ (Fr_wI (Fr_wI (Fr_wI (Fr_refl _ _) rfl) rfl) rfl) ?_ ⟨?_, ?_⟩ (fun j hj => ?_)
    · simp [wI_at, hi]
    · simp [wI_at]
    · simp [wI_at]
    · have : ¬ j = i := by omega
      simp [wI_at, this]
  intro f
  induction f with
  | zero =>
    intro gi a i o3 o5 h1 h2 hia hW hT hi o4 hq
    exact fin gi a i o3 o4 o5 (by omega) h2 hia hi hq
  | succ f ih =>
    intro gi a i o3 o5 h1 h2 hia hW hT hi o4 hq
    by_cases hlt : a < n
    · have g1 := toE_gt (B := B) (n := n) (a := a)
      have g2 := toE_n (B := B) hlt
      have ht := hT a (by omega)
      have hsb := SB_eq ht (k := 32) (by omega)
      rw [b_M_splits_7]
      by_cases hsp : B a = 32
      · have e : lexN B n (f + 1) a = lexN B n f (toE B n a) := by
          show (if a < n then _ else _) = _
          rw [if_pos hlt, if_pos hsp]
        have e1 : toE B n a = a + 1 := by
          unfold toE
          rw [if_pos (by rw [hsp]; rfl)]
        rw [e, e1] at hq
        simp (disch := omega) only [b_M_splits_12, b_M_splits_25, hlt, G_0_0 hG, G_0_1 hG, G_0_2 hG, G_0_3 hG, G_0_7 hG, G_0_10 hG, G_0_12 hG, G_0_13 hG, G_0_14 hG, G_0_15 hG, G_0_16 hG, G_0_17 hG, G_1_0 hG, G_1_2 hG, G_1_5 hG, G_2_4 hG, G_2_5 hG, G_3_5 hG, G_3_6 hG, G_3_7 hG, G_3_8 hG, G_3_9 hG, G_5_0 hG, G_5_1 hG, G_6_0 hG, G_6_1 hG, G_6_2 hG, G_6_9 hG, G_6_10 hG, G_6_11 hG, G_6_12 hG, G_6_13 hG, G_7_0 hG, G_7_5 hG, G_8_8 hG, G_8_9 hG, G_9_8 hG, G_9_9 hG, G_10_7 hG, G_10_8 hG, G_10_9 hG, G_10_10 hG, G_10_11 hG, G_11_0 hG, G_12_2 hG, G_12_3 hG, G_12_4 hG, G_12_5 hG, G_12_7 hG, G_12_8 hG, G_12_9 hG, G_12_12 hG, G_12_13 hG, G_12_14 hG, G_12_22 hG, G_12_23 hG, G_12_29 hG, G_12_30 hG, G_12_31 hG, G_12_37 hG, G_12_38 hG, G_12_39 hG, G_12_40 hG, G_12_41 hG, G_12_43 hG, G_12_46 hG, G_12_47 hG, G_12_48 hG, G_25 hG, G_26 hG, G_47 hG, G_58 hG, hsb.mpr hsp, n32_add, n32_mul, n32_lt, n32_le, n32_eq, n32_clamp, n32_inT, n32_div, n32_rem, n32_m1, n32_m1', n32_m1lt, n32_ltm1, n32_10, n32_01, Nat.not_lt_zero, Nat.lt_irrefl, Nat.mul_zero, Nat.zero_mul, Nat.zero_add, Nat.add_zero, Nat.reduceEqDiff, Nat.one_ne_zero, Nat.zero_ne_one, ax_psh_none, ax_psh_some, true_and, and_true, and_false, false_and, not_true_eq_false, not_false_eq_true, true_imp_iff, false_imp_iff, imp_self, or_true, true_or, or_false, false_or, and_self, ite_true, ite_false, if_true, if_false]
        exact ih gi (a + 1) i _ _ (by omega) (by omega) (by omega) hW hT hi _ hq
      · have e : lexN B n (f + 1) a = (a, tcd B n a, tvl B n a) :: lexN B n f (toE B n a) := by
          show (if a < n then _ else _) = _
          rw [if_pos hlt, if_neg hsp]
        have hsp2 : ¬ gi 68 0 a = n32 32 := fun z => hsp (hsb.mp z)
        rw [e] at hq
        simp (disch := omega) only [b_M_splits_12, hlt, G_0_0 hG, G_0_1 hG, G_0_2 hG, G_0_3 hG, G_0_7 hG, G_0_10 hG, G_0_12 hG, G_0_13 hG, G_0_14 hG, G_0_15 hG, G_0_16 hG, G_0_17 hG, G_1_0 hG, G_1_2 hG, G_1_5 hG, G_2_4 hG, G_2_5 hG, G_3_5 hG, G_3_6 hG, G_3_7 hG, G_3_8 hG, G_3_9 hG, G_5_0 hG, G_5_1 hG, G_6_0 hG, G_6_1 hG, G_6_2 hG, G_6_9 hG, G_6_10 hG, G_6_11 hG, G_6_12 hG, G_6_13 hG, G_7_0 hG, G_7_5 hG, G_8_8 hG, G_8_9 hG, G_9_8 hG, G_9_9 hG, G_10_7 hG, G_10_8 hG, G_10_9 hG, G_10_10 hG, G_10_11 hG, G_11_0 hG, G_12_2 hG, G_12_3 hG, G_12_4 hG, G_12_5 hG, G_12_7 hG, G_12_8 hG, G_12_9 hG, G_12_12 hG, G_12_13 hG, G_12_14 hG, G_12_22 hG, G_12_23 hG, G_12_29 hG, G_12_30 hG, G_12_31 hG, G_12_37 hG, G_12_38 hG, G_12_39 hG, G_12_40 hG, G_12_41 hG, G_12_43 hG, G_12_46 hG, G_12_47 hG, G_12_48 hG, G_25 hG, G_26 hG, G_47 hG, G_58 hG, hsp2, n32_add, n32_mul, n32_lt, n32_le, n32_eq, n32_clamp, n32_inT, n32_div, n32_rem, n32_m1, n32_m1', n32_m1lt, n32_ltm1, n32_10, n32_01, Nat.not_lt_zero, Nat.lt_irrefl, Nat.mul_zero, Nat.zero_mul, Nat.zero_add, Nat.add_zero, Nat.reduceEqDiff, Nat.one_ne_zero, Nat.zero_ne_one, ax_psh_none, ax_psh_some, true_and, and_true, and_false, false_and, not_true_eq_false, not_false_eq_true, true_imp_iff, false_imp_iff, imp_self, or_true, true_or, or_false, false_or, and_self, ite_true, ite_false, if_true, if_false]
        have run : ∀ o4, Runs (d + 2) (m_M_splits, 31, [some (.inr (.inr (some (12, 0)))), some (.inl (n32 n)), some (.inl (n32 a)), some (.inl (gi 68 0 a)), o4, o5], []) (gi, g) Q = Runs (d + 2) (m_M_splits, 31, [some (.inr (.inr (some (12, 0)))), some (.inl (n32 n)), some (.inl (n32 a)), some (.inl (gi 68 0 a)), none, o5], []) (gi, g) Q := by
          intro o4
          rw [b_M_splits_31, b_M_splits_31]
        rw [run, sm_run (d := d + 1) hG hT hn hlt]
        refine sm_tok hG hT hW hn hlt hi (by omega) _ ?_
        intro v o2 o5 hv
        have fr1 : Fr smMod gi (tokG gi i (n32 a) (n32 (tcd B n a)) (n32 v)) := Fr_tok
        have fr2 : Fr smMod gi (ax_wI (tokG gi i (n32 a) (n32 (tcd B n a)) (n32 v)) 12 0 15 (n32 (i + 1))) := Fr_wI fr1 rfl
        have w15 : tokG gi i (n32 a) (n32 (tcd B n a)) (n32 v) 12 0 15 = n32 i := by simp [tokG, wI_at, hi]
        have kg := tokG_at gi i (n32 a) (n32 (tcd B n a)) (n32 v)
        rw [b_M_splits_247, w15, n32_add]
        refine ih _ (toE B n a) (i + 1) _ _ (by omega) g2 (by omega) (WordsOK_fr hW fr2) (TapeM_fr hT fr2) (by simp [wI_at]) _ ?_
        intro gi' fr h3 hst hlow
        have l0 := hlow i (by omega)
        simp only [wI_at, ax_psh_none, ax_psh_some, true_and, and_true, and_false, false_and, not_true_eq_false, not_false_eq_true, true_imp_iff, false_imp_iff, imp_self, or_true, true_or, or_false, false_or, and_self, ite_true, ite_false, if_true, if_false, reduceIte, Nat.reduceEqDiff, Nat.reduceLT, Nat.reduceAdd, Nat.reduceMul, Nat.reduceSub, Nat.reduceDiv, Nat.reduceMod, Nat.reduceLeDiff] at l0
        refine hq gi' (Fr_trans fr2 fr) ?_ ⟨?_, fun z => ⟨v, (hv z).1, ?_, (hv z).2⟩, ?_, hst⟩ (fun j hj => ?_)
        · rw [h3]
          simp only [List.length_cons]
          congr 1
          omega
        · exact l0.1.trans ((kg i).1.trans (if_pos rfl))
        · exact l0.2.1.trans ((kg i).2.1.trans (if_pos rfl))
        · exact l0.2.2.trans ((kg i).2.2.trans (if_pos rfl))
        · have l1 := hlow j (by omega)
          simp only [wI_at, ax_psh_none, ax_psh_some, true_and, and_true, and_false, false_and, not_true_eq_false, not_false_eq_true, true_imp_iff, false_imp_iff, imp_self, or_true, true_or, or_false, false_or, and_self, ite_true, ite_false, if_true, if_false, reduceIte, Nat.reduceEqDiff, Nat.reduceLT, Nat.reduceAdd, Nat.reduceMul, Nat.reduceSub, Nat.reduceDiv, Nat.reduceMod, Nat.reduceLeDiff] at l1
          exact ⟨l1.1.trans ((kg j).1.trans (if_neg (by omega))), l1.2.1.trans ((kg j).2.1.trans (if_neg (by omega))), l1.2.2.trans ((kg j).2.2.trans (if_neg (by omega)))⟩
    · have e : lexN B n (f + 1) a = [] := by
        show (if a < n then _ else _) = _
        rw [if_neg hlt]
      rw [e] at hq
      exact fin gi a i o3 o4 o5 hlt h2 hia hi hq
theorem c_splits {B : Nat → Nat} {n d : Nat} {gi : GI} {g : AG} {Q : Option AV → AH → Prop} (hG : GOK g) (hn : n ≤ 400) (hW : WordsOK gi) (hT : TapeM gi B)
    (hq : ∀ gi', Fr smMod gi gi' → gi' 12 0 15 = n32 (lx B n).length → StM (gi' 70 0) (gi' 71 0) (gi' 72 0) n 0 (lx B n) → Q none (gi', g)) : ax_call (d + 3) m_M_splits [.inr (.inr (some (12, 0))), .inl (n32 n)] (gi, g) Q := by
  rw [e_M_splits, b_M_splits_0]
  have fr1 : Fr smMod gi (ax_wI gi 12 0 15 (n32 0)) := Fr_wI (Fr_refl _ _) rfl
  refine sm_loop (B := B) hG hn 401 _ 0 0 _ _ (by omega) (by omega) (by omega) (WordsOK_fr hW fr1) (TapeM_fr hT fr1) (by simp [wI_at]) _ ?_
  intro gi' fr h3 hst hlow
  rw [Nat.zero_add] at h3
  exact hq gi' (Fr_trans fr1 fr) h3 hst
