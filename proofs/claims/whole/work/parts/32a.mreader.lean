/-! the reference's reader -/
def TokM (gi : GI) (c v : Nat → Nat) (N : Nat) : Prop := N ≤ 400 ∧ (∀ a, N ≤ a → c a = 0) ∧ ∀ a, a ≤ N → c a < 356 ∧ gi 70 0 a = n32 (c a) ∧ (∃ q, q < 2147483648 ∧ gi 72 0 a = n32 q) ∧ (c a = 50 → ∃ q, q < 2147483648 ∧ gi 71 0 a = n32 q ∧ (v a ≤ 1000 ↔ q ≤ 1000))
def rmMod (s j : Nat) : Bool := s == 12 && (j == 16 || j == 17 || j == 18)
theorem TokM_fr {gi gi' : GI} {c v : Nat → Nat} {N : Nat} (h : TokM gi c v N) (hf : Fr rmMod gi gi') : TokM gi' c v N := by
  unfold TokM at *
  have h1 : ∀ a, gi' 70 0 a = gi 70 0 a := fun a => hf 70 0 a rfl
  have h2 : ∀ a, gi' 71 0 a = gi 71 0 a := fun a => hf 71 0 a rfl
  have h3 : ∀ a, gi' 72 0 a = gi 72 0 a := fun a => hf 72 0 a rfl
  simp only [h1, h2, h3]
  exact h
theorem TokM_bad {gi : GI} {c v : Nat → Nat} {N f : Nat} (h : TokM gi c v N) (hf : f ≤ N) : ¬ gi 72 0 f = -1 := by
  obtain ⟨q, hq, e⟩ := (h.2.2 f hf).2.2.1
  rw [e, n32_m1 hq]
  exact id
theorem c_M_fine_y (d : Nat) (gi : GI) (g : AG) (Q : Option AV → AH → Prop) (h : gi 12 0 18 = -1) : ax_call (d + 1) m_M_fine [.inr (.inr (some (12, 0)))] (gi, g) Q = Q (some (.inl (n32 1))) (gi, g) := by
  simp only [e_M_fine, b_M_fine_0, b_M_fine_8, b_M_fine_12, b_M_fine_13, h, ax_psh_none, ax_psh_some, true_and, and_true, and_false, false_and, not_true_eq_false, not_false_eq_true, true_imp_iff, false_imp_iff, imp_self, or_true, true_or, or_false, false_or, and_self, ite_true, ite_false, if_true, if_false]
theorem c_M_fine_n (d : Nat) (gi : GI) (g : AG) (Q : Option AV → AH → Prop) (h : ¬ gi 12 0 18 = -1) : ax_call (d + 1) m_M_fine [.inr (.inr (some (12, 0)))] (gi, g) Q = Q (some (.inl (n32 0))) (gi, g) := by
  simp only [e_M_fine, b_M_fine_0, b_M_fine_8, b_M_fine_12, b_M_fine_13, h, ax_psh_none, ax_psh_some, true_and, and_true, and_false, false_and, not_true_eq_false, not_false_eq_true, true_imp_iff, false_imp_iff, imp_self, or_true, true_or, or_false, false_or, and_self, ite_true, ite_false, if_true, if_false]
theorem c_M_sign (d : Nat) (gi : GI) (g : AG) (Q : Option AV → AH → Prop) (x : Nat) : ax_call (d + 1) m_M_sign [.inl (n32 x)] (gi, g) Q = Q (some (.inl (n32 (100 + x)))) (gi, g) := by
  simp only [e_M_sign, b_M_sign_0, n32_add, n32_mul, n32_lt, n32_le, n32_eq, n32_clamp, n32_inT, n32_div, n32_rem, n32_m1, n32_m1', n32_m1lt, n32_ltm1, n32_10, n32_01, Nat.not_lt_zero, Nat.lt_irrefl, Nat.mul_zero, Nat.zero_mul, Nat.zero_add, Nat.add_zero, Nat.reduceEqDiff, Nat.one_ne_zero, Nat.zero_ne_one, ax_psh_none, ax_psh_some, true_and, and_true, and_false, false_and, not_true_eq_false, not_false_eq_true, true_imp_iff, false_imp_iff, imp_self, or_true, true_or, or_false, false_or, and_self, ite_true, ite_false, if_true, if_false]
theorem c_takes_b (d : Nat) (gi : GI) (g : AG) (Q : Option AV → AH → Prop) (x : Int32) (h : ¬ gi 12 0 18 = -1) : ax_call (d + 2) m_M_takes0 [.inr (.inr (some (12, 0))), .inl x] (gi, g) Q = Q (some (.inl (n32 0))) (gi, g) := by
  simp only [e_M_takes0, b_M_takes0_0, b_M_takes0_4, b_M_takes0_7, b_M_takes0_20, b_M_takes0_24, b_M_takes0_25, b_M_takes0_30, b_M_takes0_40, c_M_fine_n _ _ _ _ h, ax_psh_none, ax_psh_some, true_and, and_true, and_false, false_and, not_true_eq_false, not_false_eq_true, true_imp_iff, false_imp_iff, imp_self, or_true, true_or, or_false, false_or, and_self, ite_true, ite_false, if_true, if_false]
theorem c_takes_y (d : Nat) {gi : GI} {g : AG} {Q : Option AV → AH → Prop} (hG : GOK g) {c v : Nat → Nat} {N a x : Nat} (ht : TokM gi c v N) (h : gi 12 0 18 = -1) (ha : gi 12 0 16 = n32 a) (haN : a ≤ N) (hx : c a = x) : ax_call (d + 2) m_M_takes0 [.inr (.inr (some (12, 0))), .inl (n32 x)] (gi, g) Q = Q (some (.inl (n32 1))) (ax_wI gi 12 0 16 (n32 (a + 1)), g) := by
  obtain ⟨hN, -, ht⟩ := ht
  have h1 := (ht a haN).2.1
  rw [hx] at h1
  simp (disch := omega) only [e_M_takes0, b_M_takes0_0, b_M_takes0_4, b_M_takes0_7, b_M_takes0_20, b_M_takes0_24, b_M_takes0_25, b_M_takes0_30, b_M_takes0_40, c_M_fine_y _ _ _ _ h, G_0_0 hG, G_0_1 hG, G_0_2 hG, G_0_3 hG, G_0_7 hG, G_0_10 hG, G_0_12 hG, G_0_13 hG, G_0_14 hG, G_0_15 hG, G_0_16 hG, G_0_17 hG, G_1_0 hG, G_1_2 hG, G_1_5 hG, G_2_4 hG, G_2_5 hG, G_3_5 hG, G_3_6 hG, G_3_7 hG, G_3_8 hG, G_3_9 hG, G_5_0 hG, G_5_1 hG, G_6_0 hG, G_6_1 hG, G_6_2 hG, G_6_9 hG, G_6_10 hG, G_6_11 hG, G_6_12 hG, G_6_13 hG, G_7_0 hG, G_7_5 hG, G_8_8 hG, G_8_9 hG, G_9_8 hG, G_9_9 hG, G_10_7 hG, G_10_8 hG, G_10_9 hG, G_10_10 hG, G_10_11 hG, G_11_0 hG, G_12_2 hG, G_12_3 hG, G_12_4 hG, G_12_5 hG, G_12_7 hG, G_12_8 hG, G_12_9 hG, G_12_12 hG, G_12_13 hG, G_12_14 hG, G_12_22 hG, G_12_23 hG, G_12_29 hG, G_12_30 hG, G_12_31 hG, G_12_37 hG, G_12_38 hG, G_12_39 hG, G_12_40 hG, G_12_41 hG, G_12_43 hG, G_12_46 hG, G_12_47 hG, G_12_48 hG, G_25 hG, G_26 hG, G_47 hG, G_58 hG, ha, h1, n32_add, n32_mul, n32_lt, n32_le, n32_eq, n32_clamp, n32_inT, n32_div, n32_rem, n32_m1, n32_m1', n32_m1lt, n32_ltm1, n32_10, n32_01, Nat.not_lt_zero, Nat.lt_irrefl, Nat.mul_zero, Nat.zero_mul, Nat.zero_add, Nat.add_zero, Nat.reduceEqDiff, Nat.one_ne_zero, Nat.zero_ne_one, ax_psh_none, ax_psh_some, true_and, and_true, and_false, false_and, not_true_eq_false, not_false_eq_true, true_imp_iff, false_imp_iff, imp_self, or_true, true_or, or_false, false_or, and_self, ite_true, ite_false, if_true, if_false]
theorem c_takes_n (d : Nat) {gi : GI} {g : AG} {Q : Option AV → AH → Prop} (hG : GOK g) {c v : Nat → Nat} {N a x : Nat} (ht : TokM gi c v N) (h : gi 12 0 18 = -1) (ha : gi 12 0 16 = n32 a) (haN : a ≤ N) (hx3 : x < 400) (hx : c a ≠ x) : ax_call (d + 2) m_M_takes0 [.inr (.inr (some (12, 0))), .inl (n32 x)] (gi, g) Q = Q (some (.inl (n32 0))) (gi, g) := by
  obtain ⟨hN, -, ht⟩ := ht
  have h1 := (ht a haN).2.1
  have h2 := (ht a haN).1
  simp (disch := omega) only [e_M_takes0, b_M_takes0_0, b_M_takes0_4, b_M_takes0_7, b_M_takes0_20, b_M_takes0_24, b_M_takes0_25, b_M_takes0_30, b_M_takes0_40, c_M_fine_y _ _ _ _ h, G_0_0 hG, G_0_1 hG, G_0_2 hG, G_0_3 hG, G_0_7 hG, G_0_10 hG, G_0_12 hG, G_0_13 hG, G_0_14 hG, G_0_15 hG, G_0_16 hG, G_0_17 hG, G_1_0 hG, G_1_2 hG, G_1_5 hG, G_2_4 hG, G_2_5 hG, G_3_5 hG, G_3_6 hG, G_3_7 hG, G_3_8 hG, G_3_9 hG, G_5_0 hG, G_5_1 hG, G_6_0 hG, G_6_1 hG, G_6_2 hG, G_6_9 hG, G_6_10 hG, G_6_11 hG, G_6_12 hG, G_6_13 hG, G_7_0 hG, G_7_5 hG, G_8_8 hG, G_8_9 hG, G_9_8 hG, G_9_9 hG, G_10_7 hG, G_10_8 hG, G_10_9 hG, G_10_10 hG, G_10_11 hG, G_11_0 hG, G_12_2 hG, G_12_3 hG, G_12_4 hG, G_12_5 hG, G_12_7 hG, G_12_8 hG, G_12_9 hG, G_12_12 hG, G_12_13 hG, G_12_14 hG, G_12_22 hG, G_12_23 hG, G_12_29 hG, G_12_30 hG, G_12_31 hG, G_12_37 hG, G_12_38 hG, G_12_39 hG, G_12_40 hG, G_12_41 hG, G_12_43 hG, G_12_46 hG, G_12_47 hG, G_12_48 hG, G_25 hG, G_26 hG, G_47 hG, G_58 hG, ha, h1, hx, n32_add, n32_mul, n32_lt, n32_le, n32_eq, n32_clamp, n32_inT, n32_div, n32_rem, n32_m1, n32_m1', n32_m1lt, n32_ltm1, n32_10, n32_01, Nat.not_lt_zero, Nat.lt_irrefl, Nat.mul_zero, Nat.zero_mul, Nat.zero_add, Nat.add_zero, Nat.reduceEqDiff, Nat.one_ne_zero, Nat.zero_ne_one, ax_psh_none, ax_psh_some, true_and, and_true, and_false, false_and, not_true_eq_false, not_false_eq_true, true_imp_iff, false_imp_iff, imp_self, or_true, true_or, or_false, false_or, and_self, ite_true, ite_false, if_true, if_false]
theorem c_faults_b (d : Nat) (gi : GI) (g : AG) (Q : Option AV → AH → Prop) (h : ¬ gi 12 0 18 = -1) : ax_call (d + 2) m_M_faults [.inr (.inr (some (12, 0)))] (gi, g) Q = Q none (gi, g) := by
  simp only [e_M_faults, b_M_faults_0, b_M_faults_4, b_M_faults_7, b_M_faults_20, c_M_fine_n _ _ _ _ h, ax_psh_none, ax_psh_some, true_and, and_true, and_false, false_and, not_true_eq_false, not_false_eq_true, true_imp_iff, false_imp_iff, imp_self, or_true, true_or, or_false, false_or, and_self, ite_true, ite_false, if_true, if_false]
theorem c_faults (d : Nat) {gi : GI} {g : AG} {Q : Option AV → AH → Prop} (hG : GOK g) {a : Nat} (h : gi 12 0 18 = -1) (ha : gi 12 0 16 = n32 a) (haN : a ≤ 400) : ax_call (d + 2) m_M_faults [.inr (.inr (some (12, 0)))] (gi, g) Q = Q none (ax_wI gi 12 0 18 (gi 72 0 a), g) := by
  simp (disch := omega) only [e_M_faults, b_M_faults_0, b_M_faults_4, b_M_faults_7, b_M_faults_20, c_M_fine_y _ _ _ _ h, G_0_0 hG, G_0_1 hG, G_0_2 hG, G_0_3 hG, G_0_7 hG, G_0_10 hG, G_0_12 hG, G_0_13 hG, G_0_14 hG, G_0_15 hG, G_0_16 hG, G_0_17 hG, G_1_0 hG, G_1_2 hG, G_1_5 hG, G_2_4 hG, G_2_5 hG, G_3_5 hG, G_3_6 hG, G_3_7 hG, G_3_8 hG, G_3_9 hG, G_5_0 hG, G_5_1 hG, G_6_0 hG, G_6_1 hG, G_6_2 hG, G_6_9 hG, G_6_10 hG, G_6_11 hG, G_6_12 hG, G_6_13 hG, G_7_0 hG, G_7_5 hG, G_8_8 hG, G_8_9 hG, G_9_8 hG, G_9_9 hG, G_10_7 hG, G_10_8 hG, G_10_9 hG, G_10_10 hG, G_10_11 hG, G_11_0 hG, G_12_2 hG, G_12_3 hG, G_12_4 hG, G_12_5 hG, G_12_7 hG, G_12_8 hG, G_12_9 hG, G_12_12 hG, G_12_13 hG, G_12_14 hG, G_12_22 hG, G_12_23 hG, G_12_29 hG, G_12_30 hG, G_12_31 hG, G_12_37 hG, G_12_38 hG, G_12_39 hG, G_12_40 hG, G_12_41 hG, G_12_43 hG, G_12_46 hG, G_12_47 hG, G_12_48 hG, G_25 hG, G_26 hG, G_47 hG, G_58 hG, ha, n32_add, n32_mul, n32_lt, n32_le, n32_eq, n32_clamp, n32_inT, n32_div, n32_rem, n32_m1, n32_m1', n32_m1lt, n32_ltm1, n32_10, n32_01, Nat.not_lt_zero, Nat.lt_irrefl, Nat.mul_zero, Nat.zero_mul, Nat.zero_add, Nat.add_zero, Nat.reduceEqDiff, Nat.one_ne_zero, Nat.zero_ne_one, ax_psh_none, ax_psh_some, true_and, and_true, and_false, false_and, not_true_eq_false, not_false_eq_true, true_imp_iff, false_imp_iff, imp_self, or_true, true_or, or_false, false_or, and_self, ite_true, ite_false, if_true, if_false]
theorem c_must_b (d : Nat) (gi : GI) (g : AG) (Q : Option AV → AH → Prop) (x : Int32) (h : ¬ gi 12 0 18 = -1) : ax_call (d + 3) m_M_must [.inr (.inr (some (12, 0))), .inl x] (gi, g) Q = Q none (gi, g) := by
  simp only [e_M_must, b_M_must_0, b_M_must_5, b_M_must_8, b_M_must_12, c_takes_b _ _ _ _ _ h, c_faults_b _ _ _ _ h, ax_psh_none, ax_psh_some, true_and, and_true, and_false, false_and, not_true_eq_false, not_false_eq_true, true_imp_iff, false_imp_iff, imp_self, or_true, true_or, or_false, false_or, and_self, ite_true, ite_false, if_true, if_false]
theorem c_must_y (d : Nat) {gi : GI} {g : AG} {Q : Option AV → AH → Prop} (hG : GOK g) {c v : Nat → Nat} {N a x : Nat} (ht : TokM gi c v N) (h : gi 12 0 18 = -1) (ha : gi 12 0 16 = n32 a) (haN : a ≤ N) (hx : c a = x) : ax_call (d + 3) m_M_must [.inr (.inr (some (12, 0))), .inl (n32 x)] (gi, g) Q = Q none (ax_wI gi 12 0 16 (n32 (a + 1)), g) := by
  simp only [e_M_must, b_M_must_0, b_M_must_5, b_M_must_8, b_M_must_12, c_takes_y _ hG ht h ha haN hx, ax_psh_none, ax_psh_some, true_and, and_true, and_false, false_and, not_true_eq_false, not_false_eq_true, true_imp_iff, false_imp_iff, imp_self, or_true, true_or, or_false, false_or, and_self, ite_true, ite_false, if_true, if_false, n32_10]
theorem c_must_n (d : Nat) {gi : GI} {g : AG} {Q : Option AV → AH → Prop} (hG : GOK g) {c v : Nat → Nat} {N a x : Nat} (ht : TokM gi c v N) (h : gi 12 0 18 = -1) (ha : gi 12 0 16 = n32 a) (haN : a ≤ N) (hx3 : x < 400) (hx : c a ≠ x) : ax_call (d + 3) m_M_must [.inr (.inr (some (12, 0))), .inl (n32 x)] (gi, g) Q = Q none (ax_wI gi 12 0 18 (gi 72 0 a), g) := by
  have hN : N ≤ 400 := ht.1
  simp only [e_M_must, b_M_must_0, b_M_must_5, b_M_must_8, b_M_must_12, c_takes_n _ hG ht h ha haN hx3 hx, c_faults _ hG h ha (by omega : a ≤ 400), ax_psh_none, ax_psh_some, true_and, and_true, and_false, false_and, not_true_eq_false, not_false_eq_true, true_imp_iff, false_imp_iff, imp_self, or_true, true_or, or_false, false_or, and_self, ite_true, ite_false, if_true, if_false]
/-! where a fault is found, nothing more is done -/
theorem c_readPart_b (d : Nat) (gi : GI) (g : AG) (Q : Option AV → AH → Prop) (x : Int32) (h : ¬ gi 12 0 18 = -1) : ax_call (d + 2) m_M_readPart [.inr (.inr (some (12, 0))), .inl x] (gi, g) Q = Q none (gi, g) := by
  simp only [e_M_readPart, b_M_readPart_0, b_M_readPart_4, b_M_readPart_7, b_M_readPart_8, b_M_readPart_24, b_M_readPart_27, b_M_readPart_33, b_M_readPart_37, b_M_readPart_41, b_M_readPart_44, b_M_readPart_45, b_M_readPart_62, b_M_readPart_68, b_M_readPart_71, b_M_readPart_74, b_M_readPart_80, b_M_readPart_95, b_M_readPart_101, b_M_readPart_107, b_M_readPart_111, b_M_readPart_114, b_M_readPart_118, c_M_fine_n _ _ _ _ h, ax_psh_none, ax_psh_some, true_and, and_true, and_false, false_and, not_true_eq_false, not_false_eq_true, true_imp_iff, false_imp_iff, imp_self, or_true, true_or, or_false, false_or, and_self, ite_true, ite_false, if_true, if_false]
theorem c_readTerm_b (d : Nat) (gi : GI) (g : AG) (Q : Option AV → AH → Prop) (x : Int32) (h : ¬ gi 12 0 18 = -1) : ax_call (d + 3) m_M_readTerm [.inr (.inr (some (12, 0))), .inl x] (gi, g) Q = Q none (gi, g) := by
  simp only [e_M_readTerm, b_M_readTerm_0, b_M_readTerm_5, b_M_readTerm_11, b_M_readTerm_14, b_M_readTerm_17, b_M_readTerm_23, b_M_readTerm_26, b_M_readTerm_29, b_M_readTerm_37, c_readPart_b _ _ _ _ _ h, c_M_sign, c_takes_b _ _ _ _ _ h, ax_psh_none, ax_psh_some, true_and, and_true, and_false, false_and, not_true_eq_false, not_false_eq_true, true_imp_iff, false_imp_iff, imp_self, or_true, true_or, or_false, false_or, and_self, ite_true, ite_false, if_true, if_false]
theorem c_readSum_b (d : Nat) (gi : GI) (g : AG) (Q : Option AV → AH → Prop) (x : Int32) (h : ¬ gi 12 0 18 = -1) : ax_call (d + 4) m_M_readSum [.inr (.inr (some (12, 0))), .inl x] (gi, g) Q = Q none (gi, g) := by
  simp only [e_M_readSum, b_M_readSum_0, b_M_readSum_5, b_M_readSum_11, b_M_readSum_14, b_M_readSum_17, b_M_readSum_23, b_M_readSum_26, b_M_readSum_29, b_M_readSum_37, c_readTerm_b _ _ _ _ _ h, c_M_sign, c_takes_b _ _ _ _ _ h, ax_psh_none, ax_psh_some, true_and, and_true, and_false, false_and, not_true_eq_false, not_false_eq_true, true_imp_iff, false_imp_iff, imp_self, or_true, true_or, or_false, false_or, and_self, ite_true, ite_false, if_true, if_false]
theorem c_readPlain_b (d : Nat) (gi : GI) (g : AG) (Q : Option AV → AH → Prop) (x : Int32) (h : ¬ gi 12 0 18 = -1) : ax_call (d + 3) m_M_readPlain [.inr (.inr (some (12, 0))), .inl x] (gi, g) Q = Q none (gi, g) := by
  rw [e_M_readPlain, b_M_readPlain_0, b_M_readPlain_2]
  simp only [b_M_readPlain_6, b_M_readPlain_12, c_takes_b _ _ _ _ _ h, n32_10, ax_psh_none, ax_psh_some, true_and, and_true, and_false, false_and, not_true_eq_false, not_false_eq_true, true_imp_iff, false_imp_iff, imp_self, or_true, true_or, or_false, false_or, and_self, ite_true, ite_false, if_true, if_false]
  rw [b_M_readPlain_2]
  simp only [b_M_readPlain_16, b_M_readPlain_20, b_M_readPlain_23, c_M_fine_n _ _ _ _ h, ax_psh_none, ax_psh_some, true_and, and_true, and_false, false_and, not_true_eq_false, not_false_eq_true, true_imp_iff, false_imp_iff, imp_self, or_true, true_or, or_false, false_or, and_self, ite_true, ite_false, if_true, if_false]
theorem c_readBoth_b (d : Nat) (gi : GI) (g : AG) (Q : Option AV → AH → Prop) (x : Int32) (h : ¬ gi 12 0 18 = -1) : ax_call (d + 4) m_M_readBoth [.inr (.inr (some (12, 0))), .inl x] (gi, g) Q = Q none (gi, g) := by
  simp only [e_M_readBoth, b_M_readBoth_0, b_M_readBoth_5, b_M_readBoth_10, b_M_readBoth_13, b_M_readBoth_21, c_readPlain_b _ _ _ _ _ h, c_takes_b _ _ _ _ _ h, ax_psh_none, ax_psh_some, true_and, and_true, and_false, false_and, not_true_eq_false, not_false_eq_true, true_imp_iff, false_imp_iff, imp_self, or_true, true_or, or_false, false_or, and_self, ite_true, ite_false, if_true, if_false]
theorem c_readTest_b (d : Nat) (gi : GI) (g : AG) (Q : Option AV → AH → Prop) (x : Int32) (h : ¬ gi 12 0 18 = -1) : ax_call (d + 5) m_M_readTest [.inr (.inr (some (12, 0))), .inl x] (gi, g) Q = Q none (gi, g) := by
  simp only [e_M_readTest, b_M_readTest_0, b_M_readTest_5, b_M_readTest_10, b_M_readTest_13, b_M_readTest_21, c_readBoth_b _ _ _ _ _ h, c_takes_b _ _ _ _ _ h, ax_psh_none, ax_psh_some, true_and, and_true, and_false, false_and, not_true_eq_false, not_false_eq_true, true_imp_iff, false_imp_iff, imp_self, or_true, true_or, or_false, false_or, and_self, ite_true, ite_false, if_true, if_false]
/-- how a method of the reference's reader reads what `it` reads -/
def RdM {α : Type} (c v : Nat → Nat) (N : Nat) (it : PI α) (m h r : Nat) : Prop :=
  ∀ (D : Nat) (gi : GI) (g : AG) (Q : Option AV → AH → Prop) (a p s : Nat), h ≤ D → GOK g → TokM gi c v N → gi 12 0 18 = -1 → gi 12 0 16 = n32 a → gi 12 0 17 = n32 p → a ≤ N → p ≤ 50 →
  (∀ f gi', it a p s = .inl f → Fr rmMod gi gi' → gi' 12 0 18 = gi 72 0 f → f ≤ N → Q none (gi', g)) →
  (∀ a' p' k m gi', it a p s = .inr (a', p', k, m) → Fr rmMod gi gi' → gi' 12 0 18 = -1 → gi' 12 0 16 = n32 a' → gi' 12 0 17 = n32 p' → a < a' → a' ≤ N → p' ≤ 50 → Q none (gi', g)) →
  ax_call D m [.inr (.inr (some (12, 0))), .inl (n32 (8 - r))] (gi, g) Q
theorem TokM_lt {gi : GI} {c v : Nat → Nat} {N a x : Nat} (ht : TokM gi c v N) (hx : c a = x) (h0 : x ≠ 0) : a + 1 ≤ N := by
  rcases Nat.lt_or_ge a N with e | e
  · exact e
  · exact absurd ((ht.2.1 a e).symm.trans hx).symm h0
theorem rm_readSum_loop {c v : Nat → Nat} {N r h : Nat} {it : PI Int} (hit : RdM c v N it m_M_readTerm h r) :
    ∀ (n d : Nat) (gi : GI) (g : AG) (Q : Option AV → AH → Prop) (a p s : Nat) (k : List (Nat × Nat)) (m : (Nat → Int) → Option Int), h ≤ d → 2 ≤ d → GOK g → TokM gi c v N → gi 12 0 18 = -1 → gi 12 0 16 = n32 a → gi 12 0 17 = n32 p → a ≤ N → p ≤ 50 → N ≤ a + n →
    (∀ f gi', pLoop c 143 145 2 3 it s n a p k m = .inl f → Fr rmMod gi gi' → gi' 12 0 18 = gi 72 0 f → f ≤ N → Q none (gi', g)) →
    (∀ a' p' k' m' gi', pLoop c 143 145 2 3 it s n a p k m = .inr (a', p', k', m') → Fr rmMod gi gi' → gi' 12 0 18 = -1 → gi' 12 0 16 = n32 a' → gi' 12 0 17 = n32 p' → a ≤ a' → a' ≤ N → p' ≤ 50 → Q none (gi', g)) →
    Runs d (m_M_readSum, 5, [some (.inr (.inr (some (12, 0)))), some (.inl (n32 (8 - r)))], []) (gi, g) Q := by
  intro n
  induction n with
  | zero =>
    intro d gi g Q a p s k m hd hd1 hG ht hb ha hp haN hp50 hn hf hok
    obtain ⟨d, rfl⟩ : ∃ d2, d = d2 + 2 := ⟨d - 2, by omega⟩
    have h0 := ht.2.1 a (by omega)
    rw [b_M_readSum_5]
    simp only [c_M_sign, b_M_readSum_11, b_M_readSum_14, b_M_readSum_17, b_M_readSum_23, b_M_readSum_26, b_M_readSum_37, c_takes_n d hG ht hb ha haN (x := 100 + 43) (by decide) (by rw [h0]; decide), c_takes_n d hG ht hb ha haN (x := 100 + 45) (by decide) (by rw [h0]; decide), ax_psh_none, ax_psh_some, true_and, and_true, and_false, false_and, not_true_eq_false, not_false_eq_true, true_imp_iff, false_imp_iff, imp_self, or_true, true_or, or_false, false_or, and_self, ite_true, ite_false, if_true, if_false]
    exact hok a p k m gi rfl (Fr_refl _ _) hb ha hp (by omega) haN hp50
  | succ n ih =>
    intro d gi g Q a p s k m hd hd1 hG ht hb ha hp haN hp50 hn hf hok
    have hN : N ≤ 400 := ht.1
    obtain ⟨d, rfl⟩ : ∃ d2, d = d2 + 2 := ⟨d - 2, by omega⟩
    have fr1 : Fr rmMod gi (ax_wI gi 12 0 16 (n32 (a + 1))) := Fr_wI (Fr_refl _ _) rfl
    have go : ∀ K : Nat, a + 1 ≤ N →
        (∀ f, it (a + 1) p (s + k.length) = .inl f → pLoop c 143 145 2 3 it s (n + 1) a p k m = .inl f) →
        (∀ a' p' k' m', it (a + 1) p (s + k.length) = .inr (a', p', k', m') → pLoop c 143 145 2 3 it s (n + 1) a p k m = pLoop c 143 145 2 3 it s n a' p' (k ++ (k' ++ [(K, 0)])) (fun e => op2 (opI K) (m e) (m' e))) →
        Runs (d + 2) (m_M_readSum, 29, [some (.inr (.inr (some (12, 0)))), some (.inl (n32 (8 - r)))], []) (ax_wI gi 12 0 16 (n32 (a + 1)), g) Q := by
      intro K haN1 e1 e2
      rw [b_M_readSum_29]
      apply hit (d + 2) _ g _ (a + 1) p (s + k.length) hd hG (TokM_fr ht fr1) (by simp [wI_at, hb]) (by simp [wI_at]) (by simp [wI_at, hp]) haN1 hp50
      · intro f gi' hk hfr h6 hfN
        have hbad : ¬ gi' 12 0 18 = -1 := by
          rw [h6]
          exact TokM_bad (TokM_fr ht fr1) hfN
        simp only [ax_psh_none, ax_psh_some, true_and, and_true, and_false, false_and, not_true_eq_false, not_false_eq_true, true_imp_iff, false_imp_iff, imp_self, or_true, true_or, or_false, false_or, and_self, ite_true, ite_false, if_true, if_false, b_M_readSum_34]
        rw [b_M_readSum_5]
        simp only [c_M_sign, b_M_readSum_11, b_M_readSum_14, b_M_readSum_17, b_M_readSum_23, b_M_readSum_26, b_M_readSum_37, c_takes_b _ _ _ _ _ hbad, ax_psh_none, ax_psh_some, true_and, and_true, and_false, false_and, not_true_eq_false, not_false_eq_true, true_imp_iff, false_imp_iff, imp_self, or_true, true_or, or_false, false_or, and_self, ite_true, ite_false, if_true, if_false]
        exact hf f gi' (e1 f hk) (Fr_trans fr1 hfr) (h6.trans (fr1 72 0 f rfl)) hfN
      · intro a' p' k' m' gi' hk hfr hb' ha' hp' hl2 haN' hp50'
        simp only [ax_psh_none, ax_psh_some, true_and, and_true, and_false, false_and, not_true_eq_false, not_false_eq_true, true_imp_iff, false_imp_iff, imp_self, or_true, true_or, or_false, false_or, and_self, ite_true, ite_false, if_true, if_false, b_M_readSum_34]
        apply ih (d + 2) gi' g Q a' p' s (k ++ (k' ++ [(K, 0)])) (fun e => op2 (opI K) (m e) (m' e)) hd hd1 hG (TokM_fr ht (Fr_trans fr1 hfr)) hb' ha' hp' haN' hp50' (by omega)
        · intro f gi'' q1 q2 q3 q4
          exact hf f gi'' ((e2 _ _ _ _ hk).trans q1) (Fr_trans (Fr_trans fr1 hfr) q2) (q3.trans (Fr_trans fr1 hfr 72 0 f rfl)) q4
        · intro a'' p'' k'' m'' gi'' q1 q2 q3 q4 q5 q6 q7 q8
          exact hok a'' p'' k'' m'' gi'' ((e2 _ _ _ _ hk).trans q1) (Fr_trans (Fr_trans fr1 hfr) q2) q3 q4 q5 (by omega) q7 q8
    by_cases h1 : c a = 143
    · rw [b_M_readSum_5]
      simp only [c_M_sign, b_M_readSum_11, b_M_readSum_14, c_takes_y d hG ht hb ha haN (x := 100 + 43) h1, n32_10, ax_psh_none, ax_psh_some, true_and, and_true, and_false, false_and, not_true_eq_false, not_false_eq_true, true_imp_iff, false_imp_iff, imp_self, or_true, true_or, or_false, false_or, and_self, ite_true, ite_false, if_true, if_false]
      exact go 2 (TokM_lt ht h1 (by decide)) (fun f hk => pLoop_f (Or.inl h1) hk) (fun a' p' k' m' hk => pLoop_1 h1 hk)
    · by_cases h2 : c a = 145
      · rw [b_M_readSum_5]
        simp only [c_M_sign, b_M_readSum_11, b_M_readSum_14, b_M_readSum_17, b_M_readSum_23, b_M_readSum_26, c_takes_n d hG ht hb ha haN (x := 100 + 43) (by decide) h1, c_takes_y d hG ht hb ha haN (x := 100 + 45) h2, n32_10, ax_psh_none, ax_psh_some, true_and, and_true, and_false, false_and, not_true_eq_false, not_false_eq_true, true_imp_iff, false_imp_iff, imp_self, or_true, true_or, or_false, false_or, and_self, ite_true, ite_false, if_true, if_false]
        exact go 3 (TokM_lt ht h2 (by decide)) (fun f hk => pLoop_f (Or.inr h2) hk) (fun a' p' k' m' hk => pLoop_2 h1 h2 hk)
      · rw [b_M_readSum_5]
        simp only [c_M_sign, b_M_readSum_11, b_M_readSum_14, b_M_readSum_17, b_M_readSum_23, b_M_readSum_26, b_M_readSum_37, c_takes_n d hG ht hb ha haN (x := 100 + 43) (by decide) h1, c_takes_n d hG ht hb ha haN (x := 100 + 45) (by decide) h2, n32_10, ax_psh_none, ax_psh_some, true_and, and_true, and_false, false_and, not_true_eq_false, not_false_eq_true, true_imp_iff, false_imp_iff, imp_self, or_true, true_or, or_false, false_or, and_self, ite_true, ite_false, if_true, if_false]
        exact hok a p k m gi (pLoop_e h1 h2) (Fr_refl _ _) hb ha hp (by omega) haN hp50
theorem rm_readSum {c v : Nat → Nat} {N r h : Nat} {it : PI Int} (hh : 2 ≤ h) (hit : RdM c v N it m_M_readTerm h r) : RdM c v N (pSeq c 143 145 2 3 it) m_M_readSum (h + 1) r := by
  intro D gi g Q a p s hD hG ht hb ha hp haN hp50 hf hok
  obtain ⟨d, rfl⟩ : ∃ d2, D = d2 + 3 := ⟨D - 3, by omega⟩
  have hN : N ≤ 400 := ht.1
  rw [e_M_readSum, b_M_readSum_0]
  apply hit (d + 2) gi g _ a p s (by omega) hG ht hb ha hp haN hp50
  · intro f gi' hk hfr h6 hfN
    have hbad : ¬ gi' 12 0 18 = -1 := by
      rw [h6]
      exact TokM_bad ht hfN
    simp only [ax_psh_none, ax_psh_some, true_and, and_true, and_false, false_and, not_true_eq_false, not_false_eq_true, true_imp_iff, false_imp_iff, imp_self, or_true, true_or, or_false, false_or, and_self, ite_true, ite_false, if_true, if_false]
    rw [b_M_readSum_5]
    simp only [c_M_sign, b_M_readSum_11, b_M_readSum_14, b_M_readSum_17, b_M_readSum_23, b_M_readSum_26, b_M_readSum_37, c_takes_b _ _ _ _ _ hbad, ax_psh_none, ax_psh_some, true_and, and_true, and_false, false_and, not_true_eq_false, not_false_eq_true, true_imp_iff, false_imp_iff, imp_self, or_true, true_or, or_false, false_or, and_self, ite_true, ite_false, if_true, if_false]
    exact hf f gi' (by simp only [pSeq, hk]) hfr h6 hfN
  · intro a' p' k m gi' hk hfr hb' ha' hp' hl2 haN' hp50'
    simp only [ax_psh_none, ax_psh_some, true_and, and_true, and_false, false_and, not_true_eq_false, not_false_eq_true, true_imp_iff, false_imp_iff, imp_self, or_true, true_or, or_false, false_or, and_self, ite_true, ite_false, if_true, if_false]
    apply rm_readSum_loop hit 400 (d + 2) gi' g Q a' p' s k m (by omega) (by omega) hG (TokM_fr ht hfr) hb' ha' hp' haN' hp50' (by omega)
    · intro f gi'' q1 q2 q3 q4
      exact hf f gi'' (by simp only [pSeq, hk]; exact q1) (Fr_trans hfr q2) (q3.trans (hfr 72 0 f rfl)) q4
    · intro a'' p'' k'' m'' gi'' q1 q2 q3 q4 q5 q6 q7 q8
      exact hok a'' p'' k'' m'' gi'' (by simp only [pSeq, hk]; exact q1) (Fr_trans hfr q2) q3 q4 q5 (by omega) q7 q8
theorem rm_readTerm_loop {c v : Nat → Nat} {N r h : Nat} {it : PI Int} (hit : RdM c v N it m_M_readPart h r) :
    ∀ (n d : Nat) (gi : GI) (g : AG) (Q : Option AV → AH → Prop) (a p s : Nat) (k : List (Nat × Nat)) (m : (Nat → Int) → Option Int), h ≤ d → 2 ≤ d → GOK g → TokM gi c v N → gi 12 0 18 = -1 → gi 12 0 16 = n32 a → gi 12 0 17 = n32 p → a ≤ N → p ≤ 50 → N ≤ a + n →
    (∀ f gi', pLoop c 142 147 4 5 it s n a p k m = .inl f → Fr rmMod gi gi' → gi' 12 0 18 = gi 72 0 f → f ≤ N → Q none (gi', g)) →
    (∀ a' p' k' m' gi', pLoop c 142 147 4 5 it s n a p k m = .inr (a', p', k', m') → Fr rmMod gi gi' → gi' 12 0 18 = -1 → gi' 12 0 16 = n32 a' → gi' 12 0 17 = n32 p' → a ≤ a' → a' ≤ N → p' ≤ 50 → Q none (gi', g)) →
    Runs d (m_M_readTerm, 5, [some (.inr (.inr (some (12, 0)))), some (.inl (n32 (8 - r)))], []) (gi, g) Q := by
  intro n
  induction n with
  | zero =>
    intro d gi g Q a p s k m hd hd1 hG ht hb ha hp haN hp50 hn hf hok
    obtain ⟨d, rfl⟩ : ∃ d2, d = d2 + 2 := ⟨d - 2, by omega⟩
    have h0 := ht.2.1 a (by omega)
    rw [b_M_readTerm_5]
    simp only [c_M_sign, b_M_readTerm_11, b_M_readTerm_14, b_M_readTerm_17, b_M_readTerm_23, b_M_readTerm_26, b_M_readTerm_37, c_takes_n d hG ht hb ha haN (x := 100 + 42) (by decide) (by rw [h0]; decide), c_takes_n d hG ht hb ha haN (x := 100 + 47) (by decide) (by rw [h0]; decide), ax_psh_none, ax_psh_some, true_and, and_true, and_false, false_and, not_true_eq_false, not_false_eq_true, true_imp_iff, false_imp_iff, imp_self, or_true, true_or, or_false, false_or, and_self, ite_true, ite_false, if_true, if_false]
    exact hok a p k m gi rfl (Fr_refl _ _) hb ha hp (by omega) haN hp50
  | succ n ih =>
    intro d gi g Q a p s k m hd hd1 hG ht hb ha hp haN hp50 hn hf hok
    have hN : N ≤ 400 := ht.1
    obtain ⟨d, rfl⟩ : ∃ d2, d = d2 + 2 := ⟨d - 2, by omega⟩
    have fr1 : Fr rmMod gi (ax_wI gi 12 0 16 (n32 (a + 1))) := Fr_wI (Fr_refl _ _) rfl
    have go : ∀ K : Nat, a + 1 ≤ N →
        (∀ f, it (a + 1) p (s + k.length) = .inl f → pLoop c 142 147 4 5 it s (n + 1) a p k m = .inl f) →
        (∀ a' p' k' m', it (a + 1) p (s + k.length) = .inr (a', p', k', m') → pLoop c 142 147 4 5 it s (n + 1) a p k m = pLoop c 142 147 4 5 it s n a' p' (k ++ (k' ++ [(K, 0)])) (fun e => op2 (opI K) (m e) (m' e))) →
        Runs (d + 2) (m_M_readTerm, 29, [some (.inr (.inr (some (12, 0)))), some (.inl (n32 (8 - r)))], []) (ax_wI gi 12 0 16 (n32 (a + 1)), g) Q := by
      intro K haN1 e1 e2
      rw [b_M_readTerm_29]
      apply hit (d + 2) _ g _ (a + 1) p (s + k.length) hd hG (TokM_fr ht fr1) (by simp [wI_at, hb]) (by simp [wI_at]) (by simp [wI_at, hp]) haN1 hp50
      · intro f gi' hk hfr h6 hfN
        have hbad : ¬ gi' 12 0 18 = -1 := by
          rw [h6]
          exact TokM_bad (TokM_fr ht fr1) hfN
        simp only [ax_psh_none, ax_psh_some, true_and, and_true, and_false, false_and, not_true_eq_false, not_false_eq_true, true_imp_iff, false_imp_iff, imp_self, or_true, true_or, or_false, false_or, and_self, ite_true, ite_false, if_true, if_false, b_M_readTerm_34]
        rw [b_M_readTerm_5]
        simp only [c_M_sign, b_M_readTerm_11, b_M_readTerm_14, b_M_readTerm_17, b_M_readTerm_23, b_M_readTerm_26, b_M_readTerm_37, c_takes_b _ _ _ _ _ hbad, ax_psh_none, ax_psh_some, true_and, and_true, and_false, false_and, not_true_eq_false, not_false_eq_true, true_imp_iff, false_imp_iff, imp_self, or_true, true_or, or_false, false_or, and_self, ite_true, ite_false, if_true, if_false]
        exact hf f gi' (e1 f hk) (Fr_trans fr1 hfr) (h6.trans (fr1 72 0 f rfl)) hfN
      · intro a' p' k' m' gi' hk hfr hb' ha' hp' hl2 haN' hp50'
        simp only [ax_psh_none, ax_psh_some, true_and, and_true, and_false, false_and, not_true_eq_false, not_false_eq_true, true_imp_iff, false_imp_iff, imp_self, or_true, true_or, or_false, false_or, and_self, ite_true, ite_false, if_true, if_false, b_M_readTerm_34]
        apply ih (d + 2) gi' g Q a' p' s (k ++ (k' ++ [(K, 0)])) (fun e => op2 (opI K) (m e) (m' e)) hd hd1 hG (TokM_fr ht (Fr_trans fr1 hfr)) hb' ha' hp' haN' hp50' (by omega)
        · intro f gi'' q1 q2 q3 q4
          exact hf f gi'' ((e2 _ _ _ _ hk).trans q1) (Fr_trans (Fr_trans fr1 hfr) q2) (q3.trans (Fr_trans fr1 hfr 72 0 f rfl)) q4
        · intro a'' p'' k'' m'' gi'' q1 q2 q3 q4 q5 q6 q7 q8
          exact hok a'' p'' k'' m'' gi'' ((e2 _ _ _ _ hk).trans q1) (Fr_trans (Fr_trans fr1 hfr) q2) q3 q4 q5 (by omega) q7 q8
    by_cases h1 : c a = 142
    · rw [b_M_readTerm_5]
      simp only [c_M_sign, b_M_readTerm_11, b_M_readTerm_14, c_takes_y d hG ht hb ha haN (x := 100 + 42) h1, n32_10, ax_psh_none, ax_psh_some, true_and, and_true, and_false, false_and, not_true_eq_false, not_false_eq_true, true_imp_iff, false_imp_iff, imp_self, or_true, true_or, or_false, false_or, and_self, ite_true, ite_false, if_true, if_false]
      exact go 4 (TokM_lt ht h1 (by decide)) (fun f hk => pLoop_f (Or.inl h1) hk) (fun a' p' k' m' hk => pLoop_1 h1 hk)
    · by_cases h2 : c a = 147
      · rw [b_M_readTerm_5]
        simp only [c_M_sign, b_M_readTerm_11, b_M_readTerm_14, b_M_readTerm_17, b_M_readTerm_23, b_M_readTerm_26, c_takes_n d hG ht hb ha haN (x := 100 + 42) (by decide) h1, c_takes_y d hG ht hb ha haN (x := 100 + 47) h2, n32_10, ax_psh_none, ax_psh_some, true_and, and_true, and_false, false_and, not_true_eq_false, not_false_eq_true, true_imp_iff, false_imp_iff, imp_self, or_true, true_or, or_false, false_or, and_self, ite_true, ite_false, if_true, if_false]
        exact go 5 (TokM_lt ht h2 (by decide)) (fun f hk => pLoop_f (Or.inr h2) hk) (fun a' p' k' m' hk => pLoop_2 h1 h2 hk)
      · rw [b_M_readTerm_5]
        simp only [c_M_sign, b_M_readTerm_11, b_M_readTerm_14, b_M_readTerm_17, b_M_readTerm_23, b_M_readTerm_26, b_M_readTerm_37, c_takes_n d hG ht hb ha haN (x := 100 + 42) (by decide) h1, c_takes_n d hG ht hb ha haN (x := 100 + 47) (by decide) h2, n32_10, ax_psh_none, ax_psh_some, true_and, and_true, and_false, false_and, not_true_eq_false, not_false_eq_true, true_imp_iff, false_imp_iff, imp_self, or_true, true_or, or_false, false_or, and_self, ite_true, ite_false, if_true, if_false]
        exact hok a p k m gi (pLoop_e h1 h2) (Fr_refl _ _) hb ha hp (by omega) haN hp50
theorem rm_readTerm {c v : Nat → Nat} {N r h : Nat} {it : PI Int} (hh : 2 ≤ h) (hit : RdM c v N it m_M_readPart h r) : RdM c v N (pSeq c 142 147 4 5 it) m_M_readTerm (h + 1) r := by
  intro D gi g Q a p s hD hG ht hb ha hp haN hp50 hf hok
  obtain ⟨d, rfl⟩ : ∃ d2, D = d2 + 3 := ⟨D - 3, by omega⟩
  have hN : N ≤ 400 := ht.1
  rw [e_M_readTerm, b_M_readTerm_0]
  apply hit (d + 2) gi g _ a p s (by omega) hG ht hb ha hp haN hp50
  · intro f gi' hk hfr h6 hfN
    have hbad : ¬ gi' 12 0 18 = -1 := by
      rw [h6]
      exact TokM_bad ht hfN
    simp only [ax_psh_none, ax_psh_some, true_and, and_true, and_false, false_and, not_true_eq_false, not_false_eq_true, true_imp_iff, false_imp_iff, imp_self, or_true, true_or, or_false, false_or, and_self, ite_true, ite_false, if_true, if_false]
    rw [b_M_readTerm_5]
    simp only [c_M_sign, b_M_readTerm_11, b_M_readTerm_14, b_M_readTerm_17, b_M_readTerm_23, b_M_readTerm_26, b_M_readTerm_37, c_takes_b _ _ _ _ _ hbad, ax_psh_none, ax_psh_some, true_and, and_true, and_false, false_and, not_true_eq_false, not_false_eq_true, true_imp_iff, false_imp_iff, imp_self, or_true, true_or, or_false, false_or, and_self, ite_true, ite_false, if_true, if_false]
    exact hf f gi' (by simp only [pSeq, hk]) hfr h6 hfN
  · intro a' p' k m gi' hk hfr hb' ha' hp' hl2 haN' hp50'
    simp only [ax_psh_none, ax_psh_some, true_and, and_true, and_false, false_and, not_true_eq_false, not_false_eq_true, true_imp_iff, false_imp_iff, imp_self, or_true, true_or, or_false, false_or, and_self, ite_true, ite_false, if_true, if_false]
    apply rm_readTerm_loop hit 400 (d + 2) gi' g Q a' p' s k m (by omega) (by omega) hG (TokM_fr ht hfr) hb' ha' hp' haN' hp50' (by omega)
    · intro f gi'' q1 q2 q3 q4
      exact hf f gi'' (by simp only [pSeq, hk]; exact q1) (Fr_trans hfr q2) (q3.trans (hfr 72 0 f rfl)) q4
    · intro a'' p'' k'' m'' gi'' q1 q2 q3 q4 q5 q6 q7 q8
      exact hok a'' p'' k'' m'' gi'' (by simp only [pSeq, hk]; exact q1) (Fr_trans hfr q2) q3 q4 q5 (by omega) q7 q8
theorem rm_readTest_loop {c v : Nat → Nat} {N r h : Nat} {it : PI Bool} (hit : RdM c v N it m_M_readBoth h r) :
    ∀ (n d : Nat) (gi : GI) (g : AG) (Q : Option AV → AH → Prop) (a p s : Nat) (k : List (Nat × Nat)) (m : (Nat → Int) → Option Bool), h ≤ d → 2 ≤ d → GOK g → TokM gi c v N → gi 12 0 18 = -1 → gi 12 0 16 = n32 a → gi 12 0 17 = n32 p → a ≤ N → p ≤ 50 → N ≤ a + n →
    (∀ f gi', pTLoop c 4 10 true it s n a p k m = .inl f → Fr rmMod gi gi' → gi' 12 0 18 = gi 72 0 f → f ≤ N → Q none (gi', g)) →
    (∀ a' p' k' m' gi', pTLoop c 4 10 true it s n a p k m = .inr (a', p', k', m') → Fr rmMod gi gi' → gi' 12 0 18 = -1 → gi' 12 0 16 = n32 a' → gi' 12 0 17 = n32 p' → a ≤ a' → a' ≤ N → p' ≤ 50 → Q none (gi', g)) →
    Runs d (m_M_readTest, 5, [some (.inr (.inr (some (12, 0)))), some (.inl (n32 (8 - r)))], []) (gi, g) Q := by
  intro n
  induction n with
  | zero =>
    intro d gi g Q a p s k m hd hd1 hG ht hb ha hp haN hp50 hn hf hok
    obtain ⟨d, rfl⟩ : ∃ d2, d = d2 + 2 := ⟨d - 2, by omega⟩
    have h0 := ht.2.1 a (by omega)
    rw [b_M_readTest_5]
    simp only [b_M_readTest_10, b_M_readTest_21, c_takes_n d hG ht hb ha haN (x := 4) (by decide) (by rw [h0]; decide), ax_psh_none, ax_psh_some, true_and, and_true, and_false, false_and, not_true_eq_false, not_false_eq_true, true_imp_iff, false_imp_iff, imp_self, or_true, true_or, or_false, false_or, and_self, ite_true, ite_false, if_true, if_false]
    exact hok a p k m gi rfl (Fr_refl _ _) hb ha hp (by omega) haN hp50
  | succ n ih =>
    intro d gi g Q a p s k m hd hd1 hG ht hb ha hp haN hp50 hn hf hok
    have hN : N ≤ 400 := ht.1
    obtain ⟨d, rfl⟩ : ∃ d2, d = d2 + 2 := ⟨d - 2, by omega⟩
    have fr1 : Fr rmMod gi (ax_wI gi 12 0 16 (n32 (a + 1))) := Fr_wI (Fr_refl _ _) rfl
    by_cases h1 : c a = 4
    · rw [b_M_readTest_5]
      simp only [b_M_readTest_10, b_M_readTest_13, c_takes_y d hG ht hb ha haN (x := 4) h1, n32_10, ax_psh_none, ax_psh_some, true_and, and_true, and_false, false_and, not_true_eq_false, not_false_eq_true, true_imp_iff, false_imp_iff, imp_self, or_true, true_or, or_false, false_or, and_self, ite_true, ite_false, if_true, if_false]
      apply hit (d + 2) _ g _ (a + 1) p (s + k.length + 1) hd hG (TokM_fr ht fr1) (by simp [wI_at, hb]) (by simp [wI_at]) (by simp [wI_at, hp]) (TokM_lt ht h1 (by decide)) hp50
      · intro f gi' hk hfr h6 hfN
        have hbad : ¬ gi' 12 0 18 = -1 := by
          rw [h6]
          exact TokM_bad (TokM_fr ht fr1) hfN
        simp only [ax_psh_none, ax_psh_some, true_and, and_true, and_false, false_and, not_true_eq_false, not_false_eq_true, true_imp_iff, false_imp_iff, imp_self, or_true, true_or, or_false, false_or, and_self, ite_true, ite_false, if_true, if_false, b_M_readTest_18]
        rw [b_M_readTest_5]
        simp only [b_M_readTest_10, b_M_readTest_21, c_takes_b _ _ _ _ _ hbad, ax_psh_none, ax_psh_some, true_and, and_true, and_false, false_and, not_true_eq_false, not_false_eq_true, true_imp_iff, false_imp_iff, imp_self, or_true, true_or, or_false, false_or, and_self, ite_true, ite_false, if_true, if_false]
        exact hf f gi' (pTLoop_f h1 hk) (Fr_trans fr1 hfr) (h6.trans (fr1 72 0 f rfl)) hfN
      · intro a' p' k' m' gi' hk hfr hb' ha' hp' hl2 haN' hp50'
        simp only [ax_psh_none, ax_psh_some, true_and, and_true, and_false, false_and, not_true_eq_false, not_false_eq_true, true_imp_iff, false_imp_iff, imp_self, or_true, true_or, or_false, false_or, and_self, ite_true, ite_false, if_true, if_false, b_M_readTest_18]
        apply ih (d + 2) gi' g Q a' p' s _ _ hd hd1 hG (TokM_fr ht (Fr_trans fr1 hfr)) hb' ha' hp' haN' hp50' (by omega)
        · intro f gi'' q1 q2 q3 q4
          exact hf f gi'' ((pTLoop_y h1 hk).trans q1) (Fr_trans (Fr_trans fr1 hfr) q2) (q3.trans (Fr_trans fr1 hfr 72 0 f rfl)) q4
        · intro a'' p'' k'' m'' gi'' q1 q2 q3 q4 q5 q6 q7 q8
          exact hok a'' p'' k'' m'' gi'' ((pTLoop_y h1 hk).trans q1) (Fr_trans (Fr_trans fr1 hfr) q2) q3 q4 q5 (by omega) q7 q8
    · rw [b_M_readTest_5]
      simp only [b_M_readTest_10, b_M_readTest_21, c_takes_n d hG ht hb ha haN (x := 4) (by decide) h1, ax_psh_none, ax_psh_some, true_and, and_true, and_false, false_and, not_true_eq_false, not_false_eq_true, true_imp_iff, false_imp_iff, imp_self, or_true, true_or, or_false, false_or, and_self, ite_true, ite_false, if_true, if_false]
      exact hok a p k m gi (pTLoop_e h1) (Fr_refl _ _) hb ha hp (by omega) haN hp50
theorem rm_readTest {c v : Nat → Nat} {N r h : Nat} {it : PI Bool} (hh : 2 ≤ h) (hit : RdM c v N it m_M_readBoth h r) : RdM c v N (pTSeq c 4 10 true it) m_M_readTest (h + 1) r := by
  intro D gi g Q a p s hD hG ht hb ha hp haN hp50 hf hok
  obtain ⟨d, rfl⟩ : ∃ d2, D = d2 + 3 := ⟨D - 3, by omega⟩
  have hN : N ≤ 400 := ht.1
  rw [e_M_readTest, b_M_readTest_0]
  apply hit (d + 2) gi g _ a p s (by omega) hG ht hb ha hp haN hp50
  · intro f gi' hk hfr h6 hfN
    have hbad : ¬ gi' 12 0 18 = -1 := by
      rw [h6]
      exact TokM_bad ht hfN
    simp only [ax_psh_none, ax_psh_some, true_and, and_true, and_false, false_and, not_true_eq_false, not_false_eq_true, true_imp_iff, false_imp_iff, imp_self, or_true, true_or, or_false, false_or, and_self, ite_true, ite_false, if_true, if_false]
    rw [b_M_readTest_5]
    simp only [b_M_readTest_10, b_M_readTest_21, c_takes_b _ _ _ _ _ hbad, ax_psh_none, ax_psh_some, true_and, and_true, and_false, false_and, not_true_eq_false, not_false_eq_true, true_imp_iff, false_imp_iff, imp_self, or_true, true_or, or_false, false_or, and_self, ite_true, ite_false, if_true, if_false]
    exact hf f gi' (by simp only [pTSeq, hk]) hfr h6 hfN
  · intro a' p' k m gi' hk hfr hb' ha' hp' hl2 haN' hp50'
    simp only [ax_psh_none, ax_psh_some, true_and, and_true, and_false, false_and, not_true_eq_false, not_false_eq_true, true_imp_iff, false_imp_iff, imp_self, or_true, true_or, or_false, false_or, and_self, ite_true, ite_false, if_true, if_false]
    apply rm_readTest_loop hit 400 (d + 2) gi' g Q a' p' s k m (by omega) (by omega) hG (TokM_fr ht hfr) hb' ha' hp' haN' hp50' (by omega)
    · intro f gi'' q1 q2 q3 q4
      exact hf f gi'' (by simp only [pTSeq, hk]; exact q1) (Fr_trans hfr q2) (q3.trans (hfr 72 0 f rfl)) q4
    · intro a'' p'' k'' m'' gi'' q1 q2 q3 q4 q5 q6 q7 q8
      exact hok a'' p'' k'' m'' gi'' (by simp only [pTSeq, hk]; exact q1) (Fr_trans hfr q2) q3 q4 q5 (by omega) q7 q8
theorem rm_readBoth_loop {c v : Nat → Nat} {N r h : Nat} {it : PI Bool} (hit : RdM c v N it m_M_readPlain h r) :
    ∀ (n d : Nat) (gi : GI) (g : AG) (Q : Option AV → AH → Prop) (a p s : Nat) (k : List (Nat × Nat)) (m : (Nat → Int) → Option Bool), h ≤ d → 2 ≤ d → GOK g → TokM gi c v N → gi 12 0 18 = -1 → gi 12 0 16 = n32 a → gi 12 0 17 = n32 p → a ≤ N → p ≤ 50 → N ≤ a + n →
    (∀ f gi', pTLoop c 5 11 false it s n a p k m = .inl f → Fr rmMod gi gi' → gi' 12 0 18 = gi 72 0 f → f ≤ N → Q none (gi', g)) →
    (∀ a' p' k' m' gi', pTLoop c 5 11 false it s n a p k m = .inr (a', p', k', m') → Fr rmMod gi gi' → gi' 12 0 18 = -1 → gi' 12 0 16 = n32 a' → gi' 12 0 17 = n32 p' → a ≤ a' → a' ≤ N → p' ≤ 50 → Q none (gi', g)) →
    Runs d (m_M_readBoth, 5, [some (.inr (.inr (some (12, 0)))), some (.inl (n32 (8 - r)))], []) (gi, g) Q := by
  intro n
  induction n with
  | zero =>
    intro d gi g Q a p s k m hd hd1 hG ht hb ha hp haN hp50 hn hf hok
    obtain ⟨d, rfl⟩ : ∃ d2, d = d2 + 2 := ⟨d - 2, by omega⟩
    have h0 := ht.2.1 a (by omega)
    rw [b_M_readBoth_5]
    simp only [b_M_readBoth_10, b_M_readBoth_21, c_takes_n d hG ht hb ha haN (x := 5) (by decide) (by rw [h0]; decide), ax_psh_none, ax_psh_some, true_and, and_true, and_false, false_and, not_true_eq_false, not_false_eq_true, true_imp_iff, false_imp_iff, imp_self, or_true, true_or, or_false, false_or, and_self, ite_true, ite_false, if_true, if_false]
    exact hok a p k m gi rfl (Fr_refl _ _) hb ha hp (by omega) haN hp50
  | succ n ih =>
    intro d gi g Q a p s k m hd hd1 hG ht hb ha hp haN hp50 hn hf hok
    have hN : N ≤ 400 := ht.1
    obtain ⟨d, rfl⟩ : ∃ d2, d = d2 + 2 := ⟨d - 2, by omega⟩
    have fr1 : Fr rmMod gi (ax_wI gi 12 0 16 (n32 (a + 1))) := Fr_wI (Fr_refl _ _) rfl
    by_cases h1 : c a = 5
    · rw [b_M_readBoth_5]
      simp only [b_M_readBoth_10, b_M_readBoth_13, c_takes_y d hG ht hb ha haN (x := 5) h1, n32_10, ax_psh_none, ax_psh_some, true_and, and_true, and_false, false_and, not_true_eq_false, not_false_eq_true, true_imp_iff, false_imp_iff, imp_self, or_true, true_or, or_false, false_or, and_self, ite_true, ite_false, if_true, if_false]
      apply hit (d + 2) _ g _ (a + 1) p (s + k.length + 1) hd hG (TokM_fr ht fr1) (by simp [wI_at, hb]) (by simp [wI_at]) (by simp [wI_at, hp]) (TokM_lt ht h1 (by decide)) hp50
      · intro f gi' hk hfr h6 hfN
        have hbad : ¬ gi' 12 0 18 = -1 := by
          rw [h6]
          exact TokM_bad (TokM_fr ht fr1) hfN
        simp only [ax_psh_none, ax_psh_some, true_and, and_true, and_false, false_and, not_true_eq_false, not_false_eq_true, true_imp_iff, false_imp_iff, imp_self, or_true, true_or, or_false, false_or, and_self, ite_true, ite_false, if_true, if_false, b_M_readBoth_18]
        rw [b_M_readBoth_5]
        simp only [b_M_readBoth_10, b_M_readBoth_21, c_takes_b _ _ _ _ _ hbad, ax_psh_none, ax_psh_some, true_and, and_true, and_false, false_and, not_true_eq_false, not_false_eq_true, true_imp_iff, false_imp_iff, imp_self, or_true, true_or, or_false, false_or, and_self, ite_true, ite_false, if_true, if_false]
        exact hf f gi' (pTLoop_f h1 hk) (Fr_trans fr1 hfr) (h6.trans (fr1 72 0 f rfl)) hfN
      · intro a' p' k' m' gi' hk hfr hb' ha' hp' hl2 haN' hp50'
        simp only [ax_psh_none, ax_psh_some, true_and, and_true, and_false, false_and, not_true_eq_false, not_false_eq_true, true_imp_iff, false_imp_iff, imp_self, or_true, true_or, or_false, false_or, and_self, ite_true, ite_false, if_true, if_false, b_M_readBoth_18]
        apply ih (d + 2) gi' g Q a' p' s _ _ hd hd1 hG (TokM_fr ht (Fr_trans fr1 hfr)) hb' ha' hp' haN' hp50' (by omega)
        · intro f gi'' q1 q2 q3 q4
          exact hf f gi'' ((pTLoop_y h1 hk).trans q1) (Fr_trans (Fr_trans fr1 hfr) q2) (q3.trans (Fr_trans fr1 hfr 72 0 f rfl)) q4
        · intro a'' p'' k'' m'' gi'' q1 q2 q3 q4 q5 q6 q7 q8
          exact hok a'' p'' k'' m'' gi'' ((pTLoop_y h1 hk).trans q1) (Fr_trans (Fr_trans fr1 hfr) q2) q3 q4 q5 (by omega) q7 q8
    · rw [b_M_readBoth_5]
      simp only [b_M_readBoth_10, b_M_readBoth_21, c_takes_n d hG ht hb ha haN (x := 5) (by decide) h1, ax_psh_none, ax_psh_some, true_and, and_true, and_false, false_and, not_true_eq_false, not_false_eq_true, true_imp_iff, false_imp_iff, imp_self, or_true, true_or, or_false, false_or, and_self, ite_true, ite_false, if_true, if_false]
      exact hok a p k m gi (pTLoop_e h1) (Fr_refl _ _) hb ha hp (by omega) haN hp50
theorem rm_readBoth {c v : Nat → Nat} {N r h : Nat} {it : PI Bool} (hh : 2 ≤ h) (hit : RdM c v N it m_M_readPlain h r) : RdM c v N (pTSeq c 5 11 false it) m_M_readBoth (h + 1) r := by
  intro D gi g Q a p s hD hG ht hb ha hp haN hp50 hf hok
  obtain ⟨d, rfl⟩ : ∃ d2, D = d2 + 3 := ⟨D - 3, by omega⟩
  have hN : N ≤ 400 := ht.1
  rw [e_M_readBoth, b_M_readBoth_0]
  apply hit (d + 2) gi g _ a p s (by omega) hG ht hb ha hp haN hp50
  · intro f gi' hk hfr h6 hfN
    have hbad : ¬ gi' 12 0 18 = -1 := by
      rw [h6]
      exact TokM_bad ht hfN
    simp only [ax_psh_none, ax_psh_some, true_and, and_true, and_false, false_and, not_true_eq_false, not_false_eq_true, true_imp_iff, false_imp_iff, imp_self, or_true, true_or, or_false, false_or, and_self, ite_true, ite_false, if_true, if_false]
    rw [b_M_readBoth_5]
    simp only [b_M_readBoth_10, b_M_readBoth_21, c_takes_b _ _ _ _ _ hbad, ax_psh_none, ax_psh_some, true_and, and_true, and_false, false_and, not_true_eq_false, not_false_eq_true, true_imp_iff, false_imp_iff, imp_self, or_true, true_or, or_false, false_or, and_self, ite_true, ite_false, if_true, if_false]
    exact hf f gi' (by simp only [pTSeq, hk]) hfr h6 hfN
  · intro a' p' k m gi' hk hfr hb' ha' hp' hl2 haN' hp50'
    simp only [ax_psh_none, ax_psh_some, true_and, and_true, and_false, false_and, not_true_eq_false, not_false_eq_true, true_imp_iff, false_imp_iff, imp_self, or_true, true_or, or_false, false_or, and_self, ite_true, ite_false, if_true, if_false]
    apply rm_readBoth_loop hit 400 (d + 2) gi' g Q a' p' s k m (by omega) (by omega) hG (TokM_fr ht hfr) hb' ha' hp' haN' hp50' (by omega)
    · intro f gi'' q1 q2 q3 q4
      exact hf f gi'' (by simp only [pTSeq, hk]; exact q1) (Fr_trans hfr q2) (q3.trans (hfr 72 0 f rfl)) q4
    · intro a'' p'' k'' m'' gi'' q1 q2 q3 q4 q5 q6 q7 q8
      exact hok a'' p'' k'' m'' gi'' (by simp only [pTSeq, hk]; exact q1) (Fr_trans hfr q2) q3 q4 q5 (by omega) q7 q8
