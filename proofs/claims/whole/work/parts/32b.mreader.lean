/-! the reference's reader: parts, what is not so, clauses -/
theorem c_leaf_y (d : Nat) {gi : GI} {g : AG} {Q : Option AV → AH → Prop} (hG : GOK g) {a p : Nat} (h : gi 12 0 18 = -1) (ha : gi 12 0 16 = n32 a) (hp : gi 12 0 17 = n32 p) (hp50 : p < 50) : ax_call (d + 3) m_M_leaf [.inr (.inr (some (12, 0)))] (gi, g) Q = Q none (ax_wI (ax_wI gi 12 0 17 (n32 (p + 1))) 12 0 16 (n32 (a + 1)), g) := by
  have e : ¬ p = 50 := by omega
  have h1 : ax_wI gi 12 0 17 (n32 (p + 1)) 12 0 18 = -1 := by simp [wI_at, h]
  simp (disch := omega) only [e_M_leaf, b_M_leaf_0, b_M_leaf_9, b_M_leaf_13, b_M_leaf_27, b_M_leaf_30, b_M_leaf_40, hp, e, c_M_fine_y _ _ _ _ h1, wI_at, ha, n32_add, n32_mul, n32_lt, n32_le, n32_eq, n32_clamp, n32_inT, n32_div, n32_rem, n32_m1, n32_m1', n32_m1lt, n32_ltm1, n32_10, n32_01, Nat.not_lt_zero, Nat.lt_irrefl, Nat.mul_zero, Nat.zero_mul, Nat.zero_add, Nat.add_zero, Nat.reduceEqDiff, Nat.one_ne_zero, Nat.zero_ne_one, ax_psh_none, ax_psh_some, true_and, and_true, and_false, false_and, not_true_eq_false, not_false_eq_true, true_imp_iff, false_imp_iff, imp_self, or_true, true_or, or_false, false_or, and_self, ite_true, ite_false, if_true, if_false, reduceIte, Nat.reduceEqDiff, Nat.reduceLT, Nat.reduceAdd, Nat.reduceMul, Nat.reduceSub, Nat.reduceDiv, Nat.reduceMod, Nat.reduceLeDiff]
theorem c_leaf_n (d : Nat) {gi : GI} {g : AG} {Q : Option AV → AH → Prop} (hG : GOK g) {a : Nat} (h : gi 12 0 18 = -1) (ha : gi 12 0 16 = n32 a) (haN : a ≤ 400) (hbad : ¬ gi 72 0 a = -1) (hp : gi 12 0 17 = n32 50) : ax_call (d + 3) m_M_leaf [.inr (.inr (some (12, 0)))] (gi, g) Q = Q none (ax_wI (ax_wI gi 12 0 18 (gi 72 0 a)) 12 0 17 (n32 51), g) := by
  have h1 : ¬ ax_wI (ax_wI gi 12 0 18 (gi 72 0 a)) 12 0 17 (n32 51) 12 0 18 = -1 := by simpa [wI_at] using hbad
  simp (disch := omega) only [e_M_leaf, b_M_leaf_0, b_M_leaf_9, b_M_leaf_13, b_M_leaf_27, b_M_leaf_30, b_M_leaf_40, hp, c_faults _ hG h ha haN, wI_at, n32_add, n32_mul, n32_lt, n32_le, n32_eq, n32_clamp, n32_inT, n32_div, n32_rem, n32_m1, n32_m1', n32_m1lt, n32_ltm1, n32_10, n32_01, Nat.not_lt_zero, Nat.lt_irrefl, Nat.mul_zero, Nat.zero_mul, Nat.zero_add, Nat.add_zero, Nat.reduceEqDiff, Nat.one_ne_zero, Nat.zero_ne_one, ax_psh_none, ax_psh_some, true_and, and_true, and_false, false_and, not_true_eq_false, not_false_eq_true, true_imp_iff, false_imp_iff, imp_self, or_true, true_or, or_false, false_or, and_self, ite_true, ite_false, if_true, if_false, reduceIte, Nat.reduceEqDiff, Nat.reduceLT, Nat.reduceAdd, Nat.reduceMul, Nat.reduceSub, Nat.reduceDiv, Nat.reduceMod, Nat.reduceLeDiff]
  simp (disch := omega) only [c_M_fine_n _ _ _ _ h1, ax_psh_none, ax_psh_some, true_and, and_true, and_false, false_and, not_true_eq_false, not_false_eq_true, true_imp_iff, false_imp_iff, imp_self, or_true, true_or, or_false, false_or, and_self, ite_true, ite_false, if_true, if_false, b_M_leaf_27, b_M_leaf_40]
theorem rm_readPart {c v : Nat → Nat} {N r h : Nat} {inn : PI Int} (hr : r ≤ 8) (hi : (r = 0 ∧ ∀ a p s, inn a p s = .inl (a - 1)) ∨ (0 < r ∧ RdM c v N inn m_M_readSum h (r - 1))) (hh : 3 ≤ h) : RdM c v N (pBra c v inn) m_M_readPart (h + 1) r := by
  intro D gi g Q a p s hD hG ht hb ha hp haN hp50 hf hok
  obtain ⟨d, rfl⟩ : ∃ d2, D = d2 + 4 := ⟨D - 4, by omega⟩
  have hN : N ≤ 400 := ht.1
  rw [e_M_readPart]
  obtain ⟨h0, h1, hpl, h2⟩ := ht.2.2 a haN
  have hbad := TokM_bad ht haN
  by_cases hbr : c a = 191
  · rw [hbr] at h1
    have haN1 := TokM_lt ht hbr (by decide)
    rcases hi with ⟨rfl, hi⟩ | ⟨hr0, hi⟩
    · have hbad1 : ¬ ax_wI gi 12 0 18 (gi 72 0 a) 12 0 18 = -1 := by simpa [wI_at] using hbad
      simp (disch := omega) only [b_M_readPart_0, b_M_readPart_4, b_M_readPart_8, b_M_readPart_24, b_M_readPart_27, b_M_readPart_33, b_M_readPart_37, b_M_readPart_41, b_M_readPart_44, c_M_fine_y _ _ _ _ hb, c_M_sign, G_0_0 hG, G_0_1 hG, G_0_2 hG, G_0_3 hG, G_0_7 hG, G_0_10 hG, G_0_12 hG, G_0_13 hG, G_0_14 hG, G_0_15 hG, G_0_16 hG, G_0_17 hG, G_1_0 hG, G_1_2 hG, G_1_5 hG, G_2_4 hG, G_2_5 hG, G_3_5 hG, G_3_6 hG, G_3_7 hG, G_3_8 hG, G_3_9 hG, G_5_0 hG, G_5_1 hG, G_6_0 hG, G_6_1 hG, G_6_2 hG, G_6_9 hG, G_6_10 hG, G_6_11 hG, G_6_12 hG, G_6_13 hG, G_7_0 hG, G_7_5 hG, G_8_8 hG, G_8_9 hG, G_9_8 hG, G_9_9 hG, G_10_7 hG, G_10_8 hG, G_10_9 hG, G_10_10 hG, G_10_11 hG, G_11_0 hG, G_12_2 hG, G_12_3 hG, G_12_4 hG, G_12_5 hG, G_12_7 hG, G_12_8 hG, G_12_9 hG, G_12_12 hG, G_12_13 hG, G_12_14 hG, G_12_22 hG, G_12_23 hG, G_12_29 hG, G_12_30 hG, G_12_31 hG, G_12_37 hG, G_12_38 hG, G_12_39 hG, G_12_40 hG, G_12_41 hG, G_12_43 hG, G_12_46 hG, G_12_47 hG, G_12_48 hG, G_25 hG, G_26 hG, G_47 hG, G_58 hG, ha, h1, c_faults _ hG hb ha (by omega : a ≤ 400), c_M_fine_n _ _ _ _ hbad1, n32_add, n32_mul, n32_lt, n32_le, n32_eq, n32_clamp, n32_inT, n32_div, n32_rem, n32_m1, n32_m1', n32_m1lt, n32_ltm1, n32_10, n32_01, Nat.not_lt_zero, Nat.lt_irrefl, Nat.mul_zero, Nat.zero_mul, Nat.zero_add, Nat.add_zero, Nat.reduceEqDiff, Nat.one_ne_zero, Nat.zero_ne_one, ax_psh_none, ax_psh_some, true_and, and_true, and_false, false_and, not_true_eq_false, not_false_eq_true, true_imp_iff, false_imp_iff, imp_self, or_true, true_or, or_false, false_or, and_self, ite_true, ite_false, if_true, if_false, reduceIte, Nat.reduceEqDiff, Nat.reduceLT, Nat.reduceAdd, Nat.reduceMul, Nat.reduceSub, Nat.reduceDiv, Nat.reduceMod, Nat.reduceLeDiff]
      refine hf a _ ?_ (Fr_wI (Fr_refl _ _) rfl) (by simp [wI_at]) haN
      simp only [pBra, hbr, if_true, hi]
      rfl
    · have fr1 : Fr rmMod gi (ax_wI gi 12 0 16 (n32 (a + 1))) := Fr_wI (Fr_refl _ _) rfl
      have hne : ¬ 8 - r = 8 := by omega
      have e1 : 8 - r + 1 = 8 - (r - 1) := by omega
      simp (disch := omega) only [b_M_readPart_0, b_M_readPart_4, b_M_readPart_8, b_M_readPart_24, b_M_readPart_27, b_M_readPart_37, b_M_readPart_41, b_M_readPart_45, c_M_fine_y _ _ _ _ hb, c_M_sign, G_0_0 hG, G_0_1 hG, G_0_2 hG, G_0_3 hG, G_0_7 hG, G_0_10 hG, G_0_12 hG, G_0_13 hG, G_0_14 hG, G_0_15 hG, G_0_16 hG, G_0_17 hG, G_1_0 hG, G_1_2 hG, G_1_5 hG, G_2_4 hG, G_2_5 hG, G_3_5 hG, G_3_6 hG, G_3_7 hG, G_3_8 hG, G_3_9 hG, G_5_0 hG, G_5_1 hG, G_6_0 hG, G_6_1 hG, G_6_2 hG, G_6_9 hG, G_6_10 hG, G_6_11 hG, G_6_12 hG, G_6_13 hG, G_7_0 hG, G_7_5 hG, G_8_8 hG, G_8_9 hG, G_9_8 hG, G_9_9 hG, G_10_7 hG, G_10_8 hG, G_10_9 hG, G_10_10 hG, G_10_11 hG, G_11_0 hG, G_12_2 hG, G_12_3 hG, G_12_4 hG, G_12_5 hG, G_12_7 hG, G_12_8 hG, G_12_9 hG, G_12_12 hG, G_12_13 hG, G_12_14 hG, G_12_22 hG, G_12_23 hG, G_12_29 hG, G_12_30 hG, G_12_31 hG, G_12_37 hG, G_12_38 hG, G_12_39 hG, G_12_40 hG, G_12_41 hG, G_12_43 hG, G_12_46 hG, G_12_47 hG, G_12_48 hG, G_25 hG, G_26 hG, G_47 hG, G_58 hG, ha, h1, hne, e1, n32_add, n32_mul, n32_lt, n32_le, n32_eq, n32_clamp, n32_inT, n32_div, n32_rem, n32_m1, n32_m1', n32_m1lt, n32_ltm1, n32_10, n32_01, Nat.not_lt_zero, Nat.lt_irrefl, Nat.mul_zero, Nat.zero_mul, Nat.zero_add, Nat.add_zero, Nat.reduceEqDiff, Nat.one_ne_zero, Nat.zero_ne_one, ax_psh_none, ax_psh_some, true_and, and_true, and_false, false_and, not_true_eq_false, not_false_eq_true, true_imp_iff, false_imp_iff, imp_self, or_true, true_or, or_false, false_or, and_self, ite_true, ite_false, if_true, if_false, reduceIte, Nat.reduceEqDiff, Nat.reduceLT, Nat.reduceAdd, Nat.reduceMul, Nat.reduceSub, Nat.reduceDiv, Nat.reduceMod, Nat.reduceLeDiff]
      apply hi (d + 3) _ g _ (a + 1) p s (by omega) hG (TokM_fr ht fr1) (by simp [wI_at, hb]) (by simp [wI_at]) (by simp [wI_at, hp]) haN1 hp50
      · intro f gi' hk hfr h6 hfN
        have hbad' : ¬ gi' 12 0 18 = -1 := by
          rw [h6]
          exact TokM_bad (TokM_fr ht fr1) hfN
        simp only [b_M_readPart_62, c_M_sign, b_M_readPart_68, c_must_b _ _ _ _ _ hbad', b_M_readPart_71, b_M_readPart_118, ax_psh_none, ax_psh_some, true_and, and_true, and_false, false_and, not_true_eq_false, not_false_eq_true, true_imp_iff, false_imp_iff, imp_self, or_true, true_or, or_false, false_or, and_self, ite_true, ite_false, if_true, if_false]
        exact hf f gi' (by simp only [pBra, hbr, if_true, hk]) (Fr_trans fr1 hfr) (h6.trans (fr1 72 0 f rfl)) hfN
      · intro a' p' k m gi' hk hfr hb' ha' hp' hl2 haN' hp50'
        have hfr' := Fr_trans fr1 hfr
        have ht' := TokM_fr ht hfr'
        by_cases hc2 : c a' = 193
        · simp only [b_M_readPart_62, c_M_sign, b_M_readPart_68, c_must_y _ hG ht' hb' ha' haN' (x := 100 + 93) hc2, b_M_readPart_71, b_M_readPart_118, ax_psh_none, ax_psh_some, true_and, and_true, and_false, false_and, not_true_eq_false, not_false_eq_true, true_imp_iff, false_imp_iff, imp_self, or_true, true_or, or_false, false_or, and_self, ite_true, ite_false, if_true, if_false]
          exact hok (a' + 1) p' k m _ (by simp only [pBra, hbr, if_true, hk, hc2]) (Fr_wI hfr' rfl) (by simp [wI_at, hb']) (by simp [wI_at]) (by simp [wI_at, hp']) (by omega) (TokM_lt ht hc2 (by decide)) hp50'
        · simp only [b_M_readPart_62, c_M_sign, b_M_readPart_68, c_must_n _ hG ht' hb' ha' haN' (x := 100 + 93) (by decide) hc2, b_M_readPart_71, b_M_readPart_118, ax_psh_none, ax_psh_some, true_and, and_true, and_false, false_and, not_true_eq_false, not_false_eq_true, true_imp_iff, false_imp_iff, imp_self, or_true, true_or, or_false, false_or, and_self, ite_true, ite_false, if_true, if_false]
          refine hf a' _ (by simp only [pBra, hbr, if_true, hk, hc2, if_false]) (Fr_wI hfr' rfl) ?_ haN'
          simp only [wI_at, ax_psh_none, ax_psh_some, true_and, and_true, and_false, false_and, not_true_eq_false, not_false_eq_true, true_imp_iff, false_imp_iff, imp_self, or_true, true_or, or_false, false_or, and_self, ite_true, ite_false, if_true, if_false, reduceIte, Nat.reduceEqDiff, Nat.reduceLT, Nat.reduceAdd, Nat.reduceMul, Nat.reduceSub, Nat.reduceDiv, Nat.reduceMod, Nat.reduceLeDiff]
          exact hfr' 72 0 a' rfl
  · have efa : ∀ x, pLeaf c v a p = x → pBra c v inn a p s = x := fun x hx => by simp only [pBra, hbr, if_false]; exact hx
    have bad : pLeaf c v a p = .inl a → Q none (ax_wI gi 12 0 18 (gi 72 0 a), g) := fun e => hf a _ (efa _ e) (Fr_wI (Fr_refl _ _) rfl) (by simp [wI_at]) haN
    have leaf : (c a = 50 ∧ v a ≤ 1000) ∨ (7 ≤ c a ∧ c a ≤ 14) → ∀ o1 o2, Runs (d + 3) (m_M_readPart, 107, [some (.inr (.inr (some (12, 0)))), o1, o2], []) (gi, g) Q := by
      intro hl o1 o2
      have haN1 : a + 1 ≤ N := by
        rcases Nat.lt_or_ge a N with e | e
        · exact e
        · have := ht.2.1 a e
          omega
      by_cases hp' : p < 50
      · simp only [b_M_readPart_107, c_leaf_y _ hG hb ha hp hp', b_M_readPart_111, b_M_readPart_118, ax_psh_none, ax_psh_some, true_and, and_true, and_false, false_and, not_true_eq_false, not_false_eq_true, true_imp_iff, false_imp_iff, imp_self, or_true, true_or, or_false, false_or, and_self, ite_true, ite_false, if_true, if_false]
        have key : ∀ k m, pLeaf c v a p = .inr (a + 1, p + 1, k, m) → Q none (ax_wI (ax_wI gi 12 0 17 (n32 (p + 1))) 12 0 16 (n32 (a + 1)), g) := fun k m e =>
          hok (a + 1) (p + 1) k m _ (efa _ e) (Fr_wI (Fr_wI (Fr_refl _ _) rfl) rfl) (by simp [wI_at, hb]) (by simp [wI_at]) (by simp [wI_at]) (by omega) haN1 (by omega)
        rcases hl with hl | hl
        · exact key _ _ (pLeaf_n hl.1 hl.2 hp')
        · exact key _ _ (pLeaf_w hl hp')
      · have e50 : p = 50 := by omega
        subst e50
        simp only [b_M_readPart_107, c_leaf_n _ hG hb ha (by omega) hbad hp, b_M_readPart_111, b_M_readPart_118, ax_psh_none, ax_psh_some, true_and, and_true, and_false, false_and, not_true_eq_false, not_false_eq_true, true_imp_iff, false_imp_iff, imp_self, or_true, true_or, or_false, false_or, and_self, ite_true, ite_false, if_true, if_false]
        exact hf a _ (efa _ (pLeaf_f (by omega))) (Fr_wI (Fr_wI (Fr_refl _ _) rfl) rfl) (by simp [wI_at]) haN
    simp (disch := omega) only [b_M_readPart_0, b_M_readPart_4, b_M_readPart_8, b_M_readPart_24, c_M_fine_y _ _ _ _ hb, c_M_sign, G_0_0 hG, G_0_1 hG, G_0_2 hG, G_0_3 hG, G_0_7 hG, G_0_10 hG, G_0_12 hG, G_0_13 hG, G_0_14 hG, G_0_15 hG, G_0_16 hG, G_0_17 hG, G_1_0 hG, G_1_2 hG, G_1_5 hG, G_2_4 hG, G_2_5 hG, G_3_5 hG, G_3_6 hG, G_3_7 hG, G_3_8 hG, G_3_9 hG, G_5_0 hG, G_5_1 hG, G_6_0 hG, G_6_1 hG, G_6_2 hG, G_6_9 hG, G_6_10 hG, G_6_11 hG, G_6_12 hG, G_6_13 hG, G_7_0 hG, G_7_5 hG, G_8_8 hG, G_8_9 hG, G_9_8 hG, G_9_9 hG, G_10_7 hG, G_10_8 hG, G_10_9 hG, G_10_10 hG, G_10_11 hG, G_11_0 hG, G_12_2 hG, G_12_3 hG, G_12_4 hG, G_12_5 hG, G_12_7 hG, G_12_8 hG, G_12_9 hG, G_12_12 hG, G_12_13 hG, G_12_14 hG, G_12_22 hG, G_12_23 hG, G_12_29 hG, G_12_30 hG, G_12_31 hG, G_12_37 hG, G_12_38 hG, G_12_39 hG, G_12_40 hG, G_12_41 hG, G_12_43 hG, G_12_46 hG, G_12_47 hG, G_12_48 hG, G_25 hG, G_26 hG, G_47 hG, G_58 hG, ha, h1, hbr, n32_add, n32_mul, n32_lt, n32_le, n32_eq, n32_clamp, n32_inT, n32_div, n32_rem, n32_m1, n32_m1', n32_m1lt, n32_ltm1, n32_10, n32_01, Nat.not_lt_zero, Nat.lt_irrefl, Nat.mul_zero, Nat.zero_mul, Nat.zero_add, Nat.add_zero, Nat.reduceEqDiff, Nat.one_ne_zero, Nat.zero_ne_one, ax_psh_none, ax_psh_some, true_and, and_true, and_false, false_and, not_true_eq_false, not_false_eq_true, true_imp_iff, false_imp_iff, imp_self, or_true, true_or, or_false, false_or, and_self, ite_true, ite_false, if_true, if_false, reduceIte, Nat.reduceEqDiff, Nat.reduceLT, Nat.reduceAdd, Nat.reduceMul, Nat.reduceSub, Nat.reduceDiv, Nat.reduceMod, Nat.reduceLeDiff]
    by_cases h50 : c a = 50
    · obtain ⟨q, hq1, hq2, hq3⟩ := h2 h50
      by_cases hv : v a ≤ 1000
      · have hq4 : ¬ 1000 < q := by
          have := hq3.mp hv
          omega
        simp (disch := omega) only [b_M_readPart_74, b_M_readPart_80, G_0_0 hG, G_0_1 hG, G_0_2 hG, G_0_3 hG, G_0_7 hG, G_0_10 hG, G_0_12 hG, G_0_13 hG, G_0_14 hG, G_0_15 hG, G_0_16 hG, G_0_17 hG, G_1_0 hG, G_1_2 hG, G_1_5 hG, G_2_4 hG, G_2_5 hG, G_3_5 hG, G_3_6 hG, G_3_7 hG, G_3_8 hG, G_3_9 hG, G_5_0 hG, G_5_1 hG, G_6_0 hG, G_6_1 hG, G_6_2 hG, G_6_9 hG, G_6_10 hG, G_6_11 hG, G_6_12 hG, G_6_13 hG, G_7_0 hG, G_7_5 hG, G_8_8 hG, G_8_9 hG, G_9_8 hG, G_9_9 hG, G_10_7 hG, G_10_8 hG, G_10_9 hG, G_10_10 hG, G_10_11 hG, G_11_0 hG, G_12_2 hG, G_12_3 hG, G_12_4 hG, G_12_5 hG, G_12_7 hG, G_12_8 hG, G_12_9 hG, G_12_12 hG, G_12_13 hG, G_12_14 hG, G_12_22 hG, G_12_23 hG, G_12_29 hG, G_12_30 hG, G_12_31 hG, G_12_37 hG, G_12_38 hG, G_12_39 hG, G_12_40 hG, G_12_41 hG, G_12_43 hG, G_12_46 hG, G_12_47 hG, G_12_48 hG, G_25 hG, G_26 hG, G_47 hG, G_58 hG, ha, h50, hq2, hq4, n32_add, n32_mul, n32_lt, n32_le, n32_eq, n32_clamp, n32_inT, n32_div, n32_rem, n32_m1, n32_m1', n32_m1lt, n32_ltm1, n32_10, n32_01, Nat.not_lt_zero, Nat.lt_irrefl, Nat.mul_zero, Nat.zero_mul, Nat.zero_add, Nat.add_zero, Nat.reduceEqDiff, Nat.one_ne_zero, Nat.zero_ne_one, ax_psh_none, ax_psh_some, true_and, and_true, and_false, false_and, not_true_eq_false, not_false_eq_true, true_imp_iff, false_imp_iff, imp_self, or_true, true_or, or_false, false_or, and_self, ite_true, ite_false, if_true, if_false, reduceIte, Nat.reduceEqDiff, Nat.reduceLT, Nat.reduceAdd, Nat.reduceMul, Nat.reduceSub, Nat.reduceDiv, Nat.reduceMod, Nat.reduceLeDiff]
        exact leaf (Or.inl ⟨h50, hv⟩) _ _
      · have hq4 : 1000 < q := by
          rcases Nat.lt_or_ge 1000 q with e | e
          · exact e
          · exact absurd (hq3.mpr e) hv
        simp (disch := omega) only [b_M_readPart_74, b_M_readPart_80, b_M_readPart_95, b_M_readPart_101, b_M_readPart_114, b_M_readPart_118, G_0_0 hG, G_0_1 hG, G_0_2 hG, G_0_3 hG, G_0_7 hG, G_0_10 hG, G_0_12 hG, G_0_13 hG, G_0_14 hG, G_0_15 hG, G_0_16 hG, G_0_17 hG, G_1_0 hG, G_1_2 hG, G_1_5 hG, G_2_4 hG, G_2_5 hG, G_3_5 hG, G_3_6 hG, G_3_7 hG, G_3_8 hG, G_3_9 hG, G_5_0 hG, G_5_1 hG, G_6_0 hG, G_6_1 hG, G_6_2 hG, G_6_9 hG, G_6_10 hG, G_6_11 hG, G_6_12 hG, G_6_13 hG, G_7_0 hG, G_7_5 hG, G_8_8 hG, G_8_9 hG, G_9_8 hG, G_9_9 hG, G_10_7 hG, G_10_8 hG, G_10_9 hG, G_10_10 hG, G_10_11 hG, G_11_0 hG, G_12_2 hG, G_12_3 hG, G_12_4 hG, G_12_5 hG, G_12_7 hG, G_12_8 hG, G_12_9 hG, G_12_12 hG, G_12_13 hG, G_12_14 hG, G_12_22 hG, G_12_23 hG, G_12_29 hG, G_12_30 hG, G_12_31 hG, G_12_37 hG, G_12_38 hG, G_12_39 hG, G_12_40 hG, G_12_41 hG, G_12_43 hG, G_12_46 hG, G_12_47 hG, G_12_48 hG, G_25 hG, G_26 hG, G_47 hG, G_58 hG, ha, h50, hq2, hq4, c_faults _ hG hb ha (by omega : a ≤ 400), n32_add, n32_mul, n32_lt, n32_le, n32_eq, n32_clamp, n32_inT, n32_div, n32_rem, n32_m1, n32_m1', n32_m1lt, n32_ltm1, n32_10, n32_01, Nat.not_lt_zero, Nat.lt_irrefl, Nat.mul_zero, Nat.zero_mul, Nat.zero_add, Nat.add_zero, Nat.reduceEqDiff, Nat.one_ne_zero, Nat.zero_ne_one, ax_psh_none, ax_psh_some, true_and, and_true, and_false, false_and, not_true_eq_false, not_false_eq_true, true_imp_iff, false_imp_iff, imp_self, or_true, true_or, or_false, false_or, and_self, ite_true, ite_false, if_true, if_false, reduceIte, Nat.reduceEqDiff, Nat.reduceLT, Nat.reduceAdd, Nat.reduceMul, Nat.reduceSub, Nat.reduceDiv, Nat.reduceMod, Nat.reduceLeDiff]
        exact bad (pLeaf_f (by omega))
    · by_cases h7 : c a < 7
      · simp (disch := omega) only [b_M_readPart_74, b_M_readPart_95, b_M_readPart_114, b_M_readPart_118, G_0_0 hG, G_0_1 hG, G_0_2 hG, G_0_3 hG, G_0_7 hG, G_0_10 hG, G_0_12 hG, G_0_13 hG, G_0_14 hG, G_0_15 hG, G_0_16 hG, G_0_17 hG, G_1_0 hG, G_1_2 hG, G_1_5 hG, G_2_4 hG, G_2_5 hG, G_3_5 hG, G_3_6 hG, G_3_7 hG, G_3_8 hG, G_3_9 hG, G_5_0 hG, G_5_1 hG, G_6_0 hG, G_6_1 hG, G_6_2 hG, G_6_9 hG, G_6_10 hG, G_6_11 hG, G_6_12 hG, G_6_13 hG, G_7_0 hG, G_7_5 hG, G_8_8 hG, G_8_9 hG, G_9_8 hG, G_9_9 hG, G_10_7 hG, G_10_8 hG, G_10_9 hG, G_10_10 hG, G_10_11 hG, G_11_0 hG, G_12_2 hG, G_12_3 hG, G_12_4 hG, G_12_5 hG, G_12_7 hG, G_12_8 hG, G_12_9 hG, G_12_12 hG, G_12_13 hG, G_12_14 hG, G_12_22 hG, G_12_23 hG, G_12_29 hG, G_12_30 hG, G_12_31 hG, G_12_37 hG, G_12_38 hG, G_12_39 hG, G_12_40 hG, G_12_41 hG, G_12_43 hG, G_12_46 hG, G_12_47 hG, G_12_48 hG, G_25 hG, G_26 hG, G_47 hG, G_58 hG, ha, h50, h7, c_faults _ hG hb ha (by omega : a ≤ 400), n32_add, n32_mul, n32_lt, n32_le, n32_eq, n32_clamp, n32_inT, n32_div, n32_rem, n32_m1, n32_m1', n32_m1lt, n32_ltm1, n32_10, n32_01, Nat.not_lt_zero, Nat.lt_irrefl, Nat.mul_zero, Nat.zero_mul, Nat.zero_add, Nat.add_zero, Nat.reduceEqDiff, Nat.one_ne_zero, Nat.zero_ne_one, ax_psh_none, ax_psh_some, true_and, and_true, and_false, false_and, not_true_eq_false, not_false_eq_true, true_imp_iff, false_imp_iff, imp_self, or_true, true_or, or_false, false_or, and_self, ite_true, ite_false, if_true, if_false, reduceIte, Nat.reduceEqDiff, Nat.reduceLT, Nat.reduceAdd, Nat.reduceMul, Nat.reduceSub, Nat.reduceDiv, Nat.reduceMod, Nat.reduceLeDiff]
        exact bad (pLeaf_f (by omega))
      · by_cases h14 : 14 < c a
        · simp (disch := omega) only [b_M_readPart_74, b_M_readPart_95, b_M_readPart_101, b_M_readPart_114, b_M_readPart_118, G_0_0 hG, G_0_1 hG, G_0_2 hG, G_0_3 hG, G_0_7 hG, G_0_10 hG, G_0_12 hG, G_0_13 hG, G_0_14 hG, G_0_15 hG, G_0_16 hG, G_0_17 hG, G_1_0 hG, G_1_2 hG, G_1_5 hG, G_2_4 hG, G_2_5 hG, G_3_5 hG, G_3_6 hG, G_3_7 hG, G_3_8 hG, G_3_9 hG, G_5_0 hG, G_5_1 hG, G_6_0 hG, G_6_1 hG, G_6_2 hG, G_6_9 hG, G_6_10 hG, G_6_11 hG, G_6_12 hG, G_6_13 hG, G_7_0 hG, G_7_5 hG, G_8_8 hG, G_8_9 hG, G_9_8 hG, G_9_9 hG, G_10_7 hG, G_10_8 hG, G_10_9 hG, G_10_10 hG, G_10_11 hG, G_11_0 hG, G_12_2 hG, G_12_3 hG, G_12_4 hG, G_12_5 hG, G_12_7 hG, G_12_8 hG, G_12_9 hG, G_12_12 hG, G_12_13 hG, G_12_14 hG, G_12_22 hG, G_12_23 hG, G_12_29 hG, G_12_30 hG, G_12_31 hG, G_12_37 hG, G_12_38 hG, G_12_39 hG, G_12_40 hG, G_12_41 hG, G_12_43 hG, G_12_46 hG, G_12_47 hG, G_12_48 hG, G_25 hG, G_26 hG, G_47 hG, G_58 hG, ha, h50, h7, h14, c_faults _ hG hb ha (by omega : a ≤ 400), n32_add, n32_mul, n32_lt, n32_le, n32_eq, n32_clamp, n32_inT, n32_div, n32_rem, n32_m1, n32_m1', n32_m1lt, n32_ltm1, n32_10, n32_01, Nat.not_lt_zero, Nat.lt_irrefl, Nat.mul_zero, Nat.zero_mul, Nat.zero_add, Nat.add_zero, Nat.reduceEqDiff, Nat.one_ne_zero, Nat.zero_ne_one, ax_psh_none, ax_psh_some, true_and, and_true, and_false, false_and, not_true_eq_false, not_false_eq_true, true_imp_iff, false_imp_iff, imp_self, or_true, true_or, or_false, false_or, and_self, ite_true, ite_false, if_true, if_false, reduceIte, Nat.reduceEqDiff, Nat.reduceLT, Nat.reduceAdd, Nat.reduceMul, Nat.reduceSub, Nat.reduceDiv, Nat.reduceMod, Nat.reduceLeDiff]
          exact bad (pLeaf_f (by omega))
        · simp (disch := omega) only [b_M_readPart_74, b_M_readPart_95, b_M_readPart_101, G_0_0 hG, G_0_1 hG, G_0_2 hG, G_0_3 hG, G_0_7 hG, G_0_10 hG, G_0_12 hG, G_0_13 hG, G_0_14 hG, G_0_15 hG, G_0_16 hG, G_0_17 hG, G_1_0 hG, G_1_2 hG, G_1_5 hG, G_2_4 hG, G_2_5 hG, G_3_5 hG, G_3_6 hG, G_3_7 hG, G_3_8 hG, G_3_9 hG, G_5_0 hG, G_5_1 hG, G_6_0 hG, G_6_1 hG, G_6_2 hG, G_6_9 hG, G_6_10 hG, G_6_11 hG, G_6_12 hG, G_6_13 hG, G_7_0 hG, G_7_5 hG, G_8_8 hG, G_8_9 hG, G_9_8 hG, G_9_9 hG, G_10_7 hG, G_10_8 hG, G_10_9 hG, G_10_10 hG, G_10_11 hG, G_11_0 hG, G_12_2 hG, G_12_3 hG, G_12_4 hG, G_12_5 hG, G_12_7 hG, G_12_8 hG, G_12_9 hG, G_12_12 hG, G_12_13 hG, G_12_14 hG, G_12_22 hG, G_12_23 hG, G_12_29 hG, G_12_30 hG, G_12_31 hG, G_12_37 hG, G_12_38 hG, G_12_39 hG, G_12_40 hG, G_12_41 hG, G_12_43 hG, G_12_46 hG, G_12_47 hG, G_12_48 hG, G_25 hG, G_26 hG, G_47 hG, G_58 hG, ha, h50, h7, h14, n32_add, n32_mul, n32_lt, n32_le, n32_eq, n32_clamp, n32_inT, n32_div, n32_rem, n32_m1, n32_m1', n32_m1lt, n32_ltm1, n32_10, n32_01, Nat.not_lt_zero, Nat.lt_irrefl, Nat.mul_zero, Nat.zero_mul, Nat.zero_add, Nat.add_zero, Nat.reduceEqDiff, Nat.one_ne_zero, Nat.zero_ne_one, ax_psh_none, ax_psh_some, true_and, and_true, and_false, false_and, not_true_eq_false, not_false_eq_true, true_imp_iff, false_imp_iff, imp_self, or_true, true_or, or_false, false_or, and_self, ite_true, ite_false, if_true, if_false, reduceIte, Nat.reduceEqDiff, Nat.reduceLT, Nat.reduceAdd, Nat.reduceMul, Nat.reduceSub, Nat.reduceDiv, Nat.reduceMod, Nat.reduceLeDiff]
          exact leaf (Or.inr ⟨by omega, by omega⟩) _ _
theorem rm_nots {c v : Nat → Nat} {N : Nat} {d : Nat} {g : AG} {Q : Option AV → AH → Prop} {x1 : Int32} (hG : GOK g) : ∀ (n : Nat) (gi : GI) (a : Nat) (t : Bool), TokM gi c v N → gi 12 0 18 = -1 → gi 12 0 16 = n32 a → a ≤ N → N ≤ a + n →
    (Runs (d + 3) (m_M_readPlain, 16, [some (.inr (.inr (some (12, 0)))), some (.inl x1), some (.inl (n32 0)), none], []) (ax_wI gi 12 0 16 (n32 (pNots c n a t).1), g) Q) →
    Runs (d + 3) (m_M_readPlain, 2, [some (.inr (.inr (some (12, 0)))), some (.inl x1), some (.inl (n32 1)), none], []) (gi, g) Q := by
  intro n
  induction n with
  | zero =>
    intro gi a t ht hb ha haN hn hq
    have h0 := ht.2.1 a (by omega)
    rw [b_M_readPlain_2]
    simp only [b_M_readPlain_6, b_M_readPlain_12, c_takes_n _ hG ht hb ha haN (x := 6) (by decide) (by rw [h0]; decide), n32_10, ax_psh_none, ax_psh_some, true_and, and_true, and_false, false_and, not_true_eq_false, not_false_eq_true, true_imp_iff, false_imp_iff, imp_self, or_true, true_or, or_false, false_or, and_self, ite_true, ite_false, if_true, if_false]
    rw [b_M_readPlain_2]
    rw [show (pNots c 0 a t).1 = a from rfl, wI_same ha] at hq
    exact ⟨fun _ => hq, fun q => absurd rfl q⟩
  | succ n ih =>
    intro gi a t ht hb ha haN hn hq
    by_cases h1 : c a = 6
    · have haN1 := TokM_lt ht h1 (by decide)
      have e : pNots c (n + 1) a t = pNots c n (a + 1) (!t) := by
        show (if c a = 6 then _ else _) = _
        rw [if_pos h1]
      have fr1 : Fr rmMod gi (ax_wI gi 12 0 16 (n32 (a + 1))) := Fr_wI (Fr_refl _ _) rfl
      have w : ∀ x y, ax_wI (ax_wI gi 12 0 16 x) 12 0 16 y = ax_wI gi 12 0 16 y := fun x y => by
        funext s a j
        simp only [wI_at]
        split <;> rfl
      rw [b_M_readPlain_2]
      simp only [b_M_readPlain_6, b_M_readPlain_12, c_takes_y _ hG ht hb ha haN (x := 6) h1, n32_10, ax_psh_none, ax_psh_some, true_and, and_true, and_false, false_and, not_true_eq_false, not_false_eq_true, true_imp_iff, false_imp_iff, imp_self, or_true, true_or, or_false, false_or, and_self, ite_true, ite_false, if_true, if_false]
      refine ih (ax_wI gi 12 0 16 (n32 (a + 1))) (a + 1) (!t) (TokM_fr ht fr1) (by simp [wI_at, hb]) (by simp [wI_at]) haN1 (by omega) ?_
      rw [w, ← e]
      exact hq
    · have e : pNots c (n + 1) a t = (a, t) := by
        show (if c a = 6 then _ else _) = _
        rw [if_neg h1]
      rw [b_M_readPlain_2]
      simp only [b_M_readPlain_6, b_M_readPlain_12, c_takes_n _ hG ht hb ha haN (x := 6) (by decide) h1, n32_10, ax_psh_none, ax_psh_some, true_and, and_true, and_false, false_and, not_true_eq_false, not_false_eq_true, true_imp_iff, false_imp_iff, imp_self, or_true, true_or, or_false, false_or, and_self, ite_true, ite_false, if_true, if_false]
      rw [b_M_readPlain_2]
      rw [e, wI_same ha] at hq
      exact ⟨fun _ => hq, fun q => absurd rfl q⟩
theorem rm_readPlain {c v : Nat → Nat} {N r h : Nat} {sum : PI Int} {inn : PI Bool} (hr : r ≤ 8) (hsum : RdM c v N sum m_M_readSum h r) (hi : (r = 0 ∧ ∀ a p s, inn a p s = .inl (a - 1)) ∨ (0 < r ∧ RdM c v N inn m_M_readTest h (r - 1))) (hh : 5 ≤ h) : RdM c v N (pNot c (pCmp c sum) inn) m_M_readPlain (h + 1) r := by
  intro D gi g Q a p s hD hG ht hb ha hp haN hp50 hf hok
  obtain ⟨d, rfl⟩ : ∃ d2, D = d2 + 6 := ⟨D - 6, by omega⟩
  have hN : N ≤ 400 := ht.1
  rw [e_M_readPlain, b_M_readPlain_0]
  have hle : a ≤ (pNots c 400 a false).1 := pNots_le
  have hNN : (pNots c 400 a false).1 ≤ N := pNots_N ht.2.1 haN
  have epn : ∀ x, pPar c (pCmp c sum) inn (pNots c 400 a false).1 p s = x → pNot c (pCmp c sum) inn a p s = pTurn (pNots c 400 a false).2 x := fun x hx => by rw [← hx]; rfl
  refine rm_nots hG 400 gi a false ht hb ha haN (by omega) ?_
  generalize hbb : (pNots c 400 a false).1 = b at *
  generalize htt : (pNots c 400 a false).2 = t at *
  have fr1 : Fr rmMod gi (ax_wI gi 12 0 16 (n32 b)) := Fr_wI (Fr_refl _ _) rfl
  have ht1 := TokM_fr ht fr1
  have hb1 : ax_wI gi 12 0 16 (n32 b) 12 0 18 = -1 := by simp [wI_at, hb]
  have ha1 : ax_wI gi 12 0 16 (n32 b) 12 0 16 = n32 b := by simp [wI_at]
  have hp1 : ax_wI gi 12 0 16 (n32 b) 12 0 17 = n32 p := by simp [wI_at, hp]
  have fin : ∀ (a' p' : Nat) (k : List (Nat × Nat)) (m : (Nat → Int) → Option Bool) (gi' : GI), pPar c (pCmp c sum) inn b p s = .inr (a', p', k, m) → Fr rmMod gi gi' → gi' 12 0 18 = -1 → gi' 12 0 16 = n32 a' → gi' 12 0 17 = n32 p' → b < a' → a' ≤ N → p' ≤ 50 → Q none (gi', g) := by
    intro a' p' k m gi' hk hfr hb' ha' hp' hl haN' hp50'
    cases t with
    | false => exact hok a' p' k m gi' ((epn _ hk).trans (pTurn_0 rfl)) hfr hb' ha' hp' (by omega) haN' hp50'
    | true => exact hok a' p' _ _ gi' ((epn _ hk).trans (pTurn_1 rfl rfl)) hfr hb' ha' hp' (by omega) haN' hp50'
  obtain ⟨h0, h1, hpl, h2⟩ := ht1.2.2 b hNN
  have hbad := TokM_bad ht1 hNN
  by_cases hc40 : c b = 140
  · rw [hc40] at h1
    have hbN := TokM_lt ht hc40 (by decide)
    rcases hi with ⟨rfl, hi⟩ | ⟨hr0, hi⟩
    · have hbad1 : ¬ ax_wI (ax_wI gi 12 0 16 (n32 b)) 12 0 18 (ax_wI gi 12 0 16 (n32 b) 72 0 b) 12 0 18 = -1 := by simpa [wI_at] using hbad
      simp (disch := omega) only [b_M_readPlain_16, b_M_readPlain_20, b_M_readPlain_24, b_M_readPlain_40, b_M_readPlain_43, b_M_readPlain_49, b_M_readPlain_53, b_M_readPlain_57, b_M_readPlain_60, c_M_fine_y _ _ _ _ hb1, c_M_sign, G_0_0 hG, G_0_1 hG, G_0_2 hG, G_0_3 hG, G_0_7 hG, G_0_10 hG, G_0_12 hG, G_0_13 hG, G_0_14 hG, G_0_15 hG, G_0_16 hG, G_0_17 hG, G_1_0 hG, G_1_2 hG, G_1_5 hG, G_2_4 hG, G_2_5 hG, G_3_5 hG, G_3_6 hG, G_3_7 hG, G_3_8 hG, G_3_9 hG, G_5_0 hG, G_5_1 hG, G_6_0 hG, G_6_1 hG, G_6_2 hG, G_6_9 hG, G_6_10 hG, G_6_11 hG, G_6_12 hG, G_6_13 hG, G_7_0 hG, G_7_5 hG, G_8_8 hG, G_8_9 hG, G_9_8 hG, G_9_9 hG, G_10_7 hG, G_10_8 hG, G_10_9 hG, G_10_10 hG, G_10_11 hG, G_11_0 hG, G_12_2 hG, G_12_3 hG, G_12_4 hG, G_12_5 hG, G_12_7 hG, G_12_8 hG, G_12_9 hG, G_12_12 hG, G_12_13 hG, G_12_14 hG, G_12_22 hG, G_12_23 hG, G_12_29 hG, G_12_30 hG, G_12_31 hG, G_12_37 hG, G_12_38 hG, G_12_39 hG, G_12_40 hG, G_12_41 hG, G_12_43 hG, G_12_46 hG, G_12_47 hG, G_12_48 hG, G_25 hG, G_26 hG, G_47 hG, G_58 hG, ha1, h1, c_faults _ hG hb1 ha1 (by omega : b ≤ 400), c_M_fine_n _ _ _ _ hbad1, n32_add, n32_mul, n32_lt, n32_le, n32_eq, n32_clamp, n32_inT, n32_div, n32_rem, n32_m1, n32_m1', n32_m1lt, n32_ltm1, n32_10, n32_01, Nat.not_lt_zero, Nat.lt_irrefl, Nat.mul_zero, Nat.zero_mul, Nat.zero_add, Nat.add_zero, Nat.reduceEqDiff, Nat.one_ne_zero, Nat.zero_ne_one, ax_psh_none, ax_psh_some, true_and, and_true, and_false, false_and, not_true_eq_false, not_false_eq_true, true_imp_iff, false_imp_iff, imp_self, or_true, true_or, or_false, false_or, and_self, ite_true, ite_false, if_true, if_false, reduceIte, Nat.reduceEqDiff, Nat.reduceLT, Nat.reduceAdd, Nat.reduceMul, Nat.reduceSub, Nat.reduceDiv, Nat.reduceMod, Nat.reduceLeDiff]
      refine hf b _ ((epn (.inl b) ?_).trans (pTurn_f rfl)) (Fr_wI fr1 rfl) ?_ hNN
      · simp only [pPar, hc40, if_true, hi]
        rfl
      · simp [wI_at]
    · have hne : ¬ 8 - r = 8 := by omega
      have e1 : 8 - r + 1 = 8 - (r - 1) := by omega
      have ww : ∀ x y, ax_wI (ax_wI gi 12 0 16 x) 12 0 16 y = ax_wI gi 12 0 16 y := fun x y => by
        funext s a j
        simp only [wI_at]
        split <;> rfl
      simp (disch := omega) only [b_M_readPlain_16, b_M_readPlain_20, b_M_readPlain_24, b_M_readPlain_40, b_M_readPlain_43, b_M_readPlain_53, b_M_readPlain_57, b_M_readPlain_61, c_M_fine_y _ _ _ _ hb1, c_M_sign, G_0_0 hG, G_0_1 hG, G_0_2 hG, G_0_3 hG, G_0_7 hG, G_0_10 hG, G_0_12 hG, G_0_13 hG, G_0_14 hG, G_0_15 hG, G_0_16 hG, G_0_17 hG, G_1_0 hG, G_1_2 hG, G_1_5 hG, G_2_4 hG, G_2_5 hG, G_3_5 hG, G_3_6 hG, G_3_7 hG, G_3_8 hG, G_3_9 hG, G_5_0 hG, G_5_1 hG, G_6_0 hG, G_6_1 hG, G_6_2 hG, G_6_9 hG, G_6_10 hG, G_6_11 hG, G_6_12 hG, G_6_13 hG, G_7_0 hG, G_7_5 hG, G_8_8 hG, G_8_9 hG, G_9_8 hG, G_9_9 hG, G_10_7 hG, G_10_8 hG, G_10_9 hG, G_10_10 hG, G_10_11 hG, G_11_0 hG, G_12_2 hG, G_12_3 hG, G_12_4 hG, G_12_5 hG, G_12_7 hG, G_12_8 hG, G_12_9 hG, G_12_12 hG, G_12_13 hG, G_12_14 hG, G_12_22 hG, G_12_23 hG, G_12_29 hG, G_12_30 hG, G_12_31 hG, G_12_37 hG, G_12_38 hG, G_12_39 hG, G_12_40 hG, G_12_41 hG, G_12_43 hG, G_12_46 hG, G_12_47 hG, G_12_48 hG, G_25 hG, G_26 hG, G_47 hG, G_58 hG, ha1, h1, hne, e1, ww, n32_add, n32_mul, n32_lt, n32_le, n32_eq, n32_clamp, n32_inT, n32_div, n32_rem, n32_m1, n32_m1', n32_m1lt, n32_ltm1, n32_10, n32_01, Nat.not_lt_zero, Nat.lt_irrefl, Nat.mul_zero, Nat.zero_mul, Nat.zero_add, Nat.add_zero, Nat.reduceEqDiff, Nat.one_ne_zero, Nat.zero_ne_one, ax_psh_none, ax_psh_some, true_and, and_true, and_false, false_and, not_true_eq_false, not_false_eq_true, true_imp_iff, false_imp_iff, imp_self, or_true, true_or, or_false, false_or, and_self, ite_true, ite_false, if_true, if_false, reduceIte, Nat.reduceEqDiff, Nat.reduceLT, Nat.reduceAdd, Nat.reduceMul, Nat.reduceSub, Nat.reduceDiv, Nat.reduceMod, Nat.reduceLeDiff]
      have fr2 : Fr rmMod gi (ax_wI gi 12 0 16 (n32 (b + 1))) := Fr_wI (Fr_refl _ _) rfl
      apply hi (d + 5) _ g _ (b + 1) p s (by omega) hG (TokM_fr ht fr2) (by simp [wI_at, hb]) (by simp [wI_at]) (by simp [wI_at, hp]) hbN hp50
      · intro f gi' hk hfr h6 hfN
        have hbad' : ¬ gi' 12 0 18 = -1 := by
          rw [h6]
          exact TokM_bad (TokM_fr ht fr2) hfN
        simp only [b_M_readPlain_78, c_M_sign, b_M_readPlain_84, c_must_b _ _ _ _ _ hbad', b_M_readPlain_87, b_M_readPlain_133, ax_psh_none, ax_psh_some, true_and, and_true, and_false, false_and, not_true_eq_false, not_false_eq_true, true_imp_iff, false_imp_iff, imp_self, or_true, true_or, or_false, false_or, and_self, ite_true, ite_false, if_true, if_false]
        exact hf f gi' ((epn (.inl f) (by simp only [pPar, hc40, if_true, hk])).trans (pTurn_f rfl)) (Fr_trans fr2 hfr) (h6.trans (fr2 72 0 f rfl)) hfN
      · intro a' p' k m gi' hk hfr hb' ha' hp' hl2 haN' hp50'
        have hfr' := Fr_trans fr2 hfr
        have ht' := TokM_fr ht hfr'
        by_cases hc41 : c a' = 141
        · simp only [b_M_readPlain_78, c_M_sign, b_M_readPlain_84, c_must_y _ hG ht' hb' ha' haN' (x := 100 + 41) hc41, b_M_readPlain_87, b_M_readPlain_133, ax_psh_none, ax_psh_some, true_and, and_true, and_false, false_and, not_true_eq_false, not_false_eq_true, true_imp_iff, false_imp_iff, imp_self, or_true, true_or, or_false, false_or, and_self, ite_true, ite_false, if_true, if_false]
          exact fin (a' + 1) p' k m _ (by simp only [pPar, hc40, if_true, hk, hc41]) (Fr_wI hfr' rfl) (by simp [wI_at, hb']) (by simp [wI_at]) (by simp [wI_at, hp']) (by omega) (TokM_lt ht hc41 (by decide)) hp50'
        · simp only [b_M_readPlain_78, c_M_sign, b_M_readPlain_84, c_must_n _ hG ht' hb' ha' haN' (x := 100 + 41) (by decide) hc41, b_M_readPlain_87, b_M_readPlain_133, ax_psh_none, ax_psh_some, true_and, and_true, and_false, false_and, not_true_eq_false, not_false_eq_true, true_imp_iff, false_imp_iff, imp_self, or_true, true_or, or_false, false_or, and_self, ite_true, ite_false, if_true, if_false]
          refine hf a' _ ((epn (.inl a') (by simp only [pPar, hc40, if_true, hk, hc41, if_false])).trans (pTurn_f rfl)) (Fr_wI hfr' rfl) ?_ haN'
          simp only [wI_at, ax_psh_none, ax_psh_some, true_and, and_true, and_false, false_and, not_true_eq_false, not_false_eq_true, true_imp_iff, false_imp_iff, imp_self, or_true, true_or, or_false, false_or, and_self, ite_true, ite_false, if_true, if_false, reduceIte, Nat.reduceEqDiff, Nat.reduceLT, Nat.reduceAdd, Nat.reduceMul, Nat.reduceSub, Nat.reduceDiv, Nat.reduceMod, Nat.reduceLeDiff]
          exact hfr' 72 0 a' rfl
  · have epc : ∀ x, pCmp c sum b p s = x → pPar c (pCmp c sum) inn b p s = x := fun x hx => by simp only [pPar, hc40, if_false]; exact hx
    simp (disch := omega) only [b_M_readPlain_16, b_M_readPlain_20, b_M_readPlain_24, b_M_readPlain_40, b_M_readPlain_90, c_M_fine_y _ _ _ _ hb1, c_M_sign, G_0_0 hG, G_0_1 hG, G_0_2 hG, G_0_3 hG, G_0_7 hG, G_0_10 hG, G_0_12 hG, G_0_13 hG, G_0_14 hG, G_0_15 hG, G_0_16 hG, G_0_17 hG, G_1_0 hG, G_1_2 hG, G_1_5 hG, G_2_4 hG, G_2_5 hG, G_3_5 hG, G_3_6 hG, G_3_7 hG, G_3_8 hG, G_3_9 hG, G_5_0 hG, G_5_1 hG, G_6_0 hG, G_6_1 hG, G_6_2 hG, G_6_9 hG, G_6_10 hG, G_6_11 hG, G_6_12 hG, G_6_13 hG, G_7_0 hG, G_7_5 hG, G_8_8 hG, G_8_9 hG, G_9_8 hG, G_9_9 hG, G_10_7 hG, G_10_8 hG, G_10_9 hG, G_10_10 hG, G_10_11 hG, G_11_0 hG, G_12_2 hG, G_12_3 hG, G_12_4 hG, G_12_5 hG, G_12_7 hG, G_12_8 hG, G_12_9 hG, G_12_12 hG, G_12_13 hG, G_12_14 hG, G_12_22 hG, G_12_23 hG, G_12_29 hG, G_12_30 hG, G_12_31 hG, G_12_37 hG, G_12_38 hG, G_12_39 hG, G_12_40 hG, G_12_41 hG, G_12_43 hG, G_12_46 hG, G_12_47 hG, G_12_48 hG, G_25 hG, G_26 hG, G_47 hG, G_58 hG, ha1, h1, hc40, n32_add, n32_mul, n32_lt, n32_le, n32_eq, n32_clamp, n32_inT, n32_div, n32_rem, n32_m1, n32_m1', n32_m1lt, n32_ltm1, n32_10, n32_01, Nat.not_lt_zero, Nat.lt_irrefl, Nat.mul_zero, Nat.zero_mul, Nat.zero_add, Nat.add_zero, Nat.reduceEqDiff, Nat.one_ne_zero, Nat.zero_ne_one, ax_psh_none, ax_psh_some, true_and, and_true, and_false, false_and, not_true_eq_false, not_false_eq_true, true_imp_iff, false_imp_iff, imp_self, or_true, true_or, or_false, false_or, and_self, ite_true, ite_false, if_true, if_false, reduceIte, Nat.reduceEqDiff, Nat.reduceLT, Nat.reduceAdd, Nat.reduceMul, Nat.reduceSub, Nat.reduceDiv, Nat.reduceMod, Nat.reduceLeDiff]
    apply hsum (d + 5) _ g _ b p s (by omega) hG ht1 hb1 ha1 hp1 hNN hp50
    · intro f gi' hk hfr h6 hfN
      have hbad' : ¬ gi' 12 0 18 = -1 := by
        rw [h6]
        exact TokM_bad ht1 hfN
      simp only [b_M_readPlain_95, b_M_readPlain_101, b_M_readPlain_104, b_M_readPlain_107, b_M_readPlain_113, b_M_readPlain_116, b_M_readPlain_119, b_M_readPlain_125, b_M_readPlain_128, b_M_readPlain_133, c_M_sign, c_takes_b _ _ _ _ _ hbad', c_must_b _ _ _ _ _ hbad', c_readSum_b _ _ _ _ _ hbad', ax_psh_none, ax_psh_some, true_and, and_true, and_false, false_and, not_true_eq_false, not_false_eq_true, true_imp_iff, false_imp_iff, imp_self, or_true, true_or, or_false, false_or, and_self, ite_true, ite_false, if_true, if_false]
      exact hf f gi' ((epn (.inl f) (epc _ (by simp only [pCmp, hk]))).trans (pTurn_f rfl)) (Fr_trans fr1 hfr) (h6.trans (fr1 72 0 f rfl)) hfN
    · intro a1 p1 k1 m1 gi1 hk1 hfr1 hb2 ha2 hp2 hl2 haN2 hp502
      have hfr1' := Fr_trans fr1 hfr1
      have ht2 := TokM_fr ht hfr1'
      have go : ∀ K : Nat, a1 + 1 ≤ N →
          (∀ f, sum (a1 + 1) p1 (s + k1.length) = .inl f → pCmp c sum b p s = .inl f) →
          (∀ a2 p2 k2 m2, sum (a1 + 1) p1 (s + k1.length) = .inr (a2, p2, k2, m2) → pCmp c sum b p s = .inr (a2, p2, k1 ++ (k2 ++ [(K, 0)]), fun e => op2 (fun x y => some (cmI K x y)) (m1 e) (m2 e))) →
          ∀ o2 o3, Runs (d + 5) (m_M_readPlain, 128, [some (.inr (.inr (some (12, 0)))), some (.inl (n32 (8 - r))), o2, o3], []) (ax_wI gi1 12 0 16 (n32 (a1 + 1)), g) Q := by
        intro K haN3 e1 e2 o2 o3
        have fr2 : Fr rmMod gi1 (ax_wI gi1 12 0 16 (n32 (a1 + 1))) := Fr_wI (Fr_refl _ _) rfl
        rw [b_M_readPlain_128]
        apply hsum (d + 5) _ g _ (a1 + 1) p1 (s + k1.length) (by omega) hG (TokM_fr ht2 fr2) (by simp [wI_at, hb2]) (by simp [wI_at]) (by simp [wI_at, hp2]) haN3 hp502
        · intro f gi' hk hfr h6 hfN
          simp only [b_M_readPlain_133, ax_psh_none, ax_psh_some, true_and, and_true, and_false, false_and, not_true_eq_false, not_false_eq_true, true_imp_iff, false_imp_iff, imp_self, or_true, true_or, or_false, false_or, and_self, ite_true, ite_false, if_true, if_false]
          exact hf f gi' ((epn (.inl f) (epc _ (e1 f hk))).trans (pTurn_f rfl)) (Fr_trans hfr1' (Fr_trans fr2 hfr)) (h6.trans ((fr2 72 0 f rfl).trans (hfr1' 72 0 f rfl))) hfN
        · intro a' p' k' m' gi' hk hfr hb' ha' hp' hl2' haN' hp50'
          simp only [b_M_readPlain_133, ax_psh_none, ax_psh_some, true_and, and_true, and_false, false_and, not_true_eq_false, not_false_eq_true, true_imp_iff, false_imp_iff, imp_self, or_true, true_or, or_false, false_or, and_self, ite_true, ite_false, if_true, if_false]
          exact fin a' p' _ _ gi' (epc _ (e2 _ _ _ _ hk)) (Fr_trans hfr1' (Fr_trans fr2 hfr)) hb' ha' hp' (by omega) haN' hp50'
      by_cases q1 : c a1 = 160
      · simp only [b_M_readPlain_95, b_M_readPlain_101, b_M_readPlain_104, c_M_sign, c_takes_y _ hG ht2 hb2 ha2 haN2 (x := 100 + 60) q1, n32_10, ax_psh_none, ax_psh_some, true_and, and_true, and_false, false_and, not_true_eq_false, not_false_eq_true, true_imp_iff, false_imp_iff, imp_self, or_true, true_or, or_false, false_or, and_self, ite_true, ite_false, if_true, if_false]
        exact go 6 (TokM_lt ht q1 (by decide)) (fun f hk => by simp only [pCmp, hk1, hk, q1, true_or, if_true]) (fun a2 p2 k2 m2 hk => by simp only [pCmp, hk1, hk, q1, true_or, if_true]) _ _
      · by_cases q2 : c a1 = 162
        · simp only [b_M_readPlain_95, b_M_readPlain_101, b_M_readPlain_104, b_M_readPlain_107, b_M_readPlain_113, b_M_readPlain_116, c_M_sign, c_takes_n _ hG ht2 hb2 ha2 haN2 (x := 100 + 60) (by decide) q1, c_takes_y _ hG ht2 hb2 ha2 haN2 (x := 100 + 62) q2, n32_10, ax_psh_none, ax_psh_some, true_and, and_true, and_false, false_and, not_true_eq_false, not_false_eq_true, true_imp_iff, false_imp_iff, imp_self, or_true, true_or, or_false, false_or, and_self, ite_true, ite_false, if_true, if_false]
          exact go 7 (TokM_lt ht q2 (by decide)) (fun f hk => by simp [pCmp, hk1, hk, q2]) (fun a2 p2 k2 m2 hk => by simp [pCmp, hk1, hk, q2]) _ _
        · by_cases q3 : c a1 = 161
          · simp only [b_M_readPlain_95, b_M_readPlain_101, b_M_readPlain_104, b_M_readPlain_107, b_M_readPlain_113, b_M_readPlain_116, b_M_readPlain_119, b_M_readPlain_125, c_M_sign, c_takes_n _ hG ht2 hb2 ha2 haN2 (x := 100 + 60) (by decide) q1, c_takes_n _ hG ht2 hb2 ha2 haN2 (x := 100 + 62) (by decide) q2, c_must_y _ hG ht2 hb2 ha2 haN2 (x := 100 + 61) q3, n32_10, ax_psh_none, ax_psh_some, true_and, and_true, and_false, false_and, not_true_eq_false, not_false_eq_true, true_imp_iff, false_imp_iff, imp_self, or_true, true_or, or_false, false_or, and_self, ite_true, ite_false, if_true, if_false]
            exact go 8 (TokM_lt ht q3 (by decide)) (fun f hk => by simp [pCmp, hk1, hk, q3]) (fun a2 p2 k2 m2 hk => by simp [pCmp, hk1, hk, q3]) _ _
          · have hbad1 : ¬ ax_wI gi1 12 0 18 (gi1 72 0 a1) 12 0 18 = -1 := by
              have := TokM_bad ht2 haN2
              simpa [wI_at] using this
            simp only [b_M_readPlain_95, b_M_readPlain_101, b_M_readPlain_104, b_M_readPlain_107, b_M_readPlain_113, b_M_readPlain_116, b_M_readPlain_119, b_M_readPlain_125, b_M_readPlain_128, b_M_readPlain_133, c_M_sign, c_takes_n _ hG ht2 hb2 ha2 haN2 (x := 100 + 60) (by decide) q1, c_takes_n _ hG ht2 hb2 ha2 haN2 (x := 100 + 62) (by decide) q2, c_must_n _ hG ht2 hb2 ha2 haN2 (x := 100 + 61) (by decide) q3, c_readSum_b _ _ _ _ _ hbad1, n32_10, ax_psh_none, ax_psh_some, true_and, and_true, and_false, false_and, not_true_eq_false, not_false_eq_true, true_imp_iff, false_imp_iff, imp_self, or_true, true_or, or_false, false_or, and_self, ite_true, ite_false, if_true, if_false]
            refine hf a1 _ ((epn (.inl a1) (epc _ (by simp [pCmp, hk1, q1, q2, q3]))).trans (pTurn_f rfl)) (Fr_wI hfr1' rfl) ?_ haN2
            simp only [wI_at, ax_psh_none, ax_psh_some, true_and, and_true, and_false, false_and, not_true_eq_false, not_false_eq_true, true_imp_iff, false_imp_iff, imp_self, or_true, true_or, or_false, false_or, and_self, ite_true, ite_false, if_true, if_false, reduceIte, Nat.reduceEqDiff, Nat.reduceLT, Nat.reduceAdd, Nat.reduceMul, Nat.reduceSub, Nat.reduceDiv, Nat.reduceMod, Nat.reduceLeDiff]
            exact hfr1' 72 0 a1 rfl
