/-! off, has, tax, owes, owner, brings, dearest -/
theorem PI_P {gi gi' : GI} {t : Nat} (h : ∀ t, t < 6 → PaperInv gi t) (ho : OnlyP t gi gi') (hp : PaperInv gi' t) : ∀ t, t < 6 → PaperInv gi' t := fun t' ht' => by
  by_cases z : t' = t
  · rw [z]
    exact hp
  · exact PaperInv_P (h t' ht') ho z
theorem PI_lay {gi gi' : GI} (h : ∀ t, t < 6 → PaperInv gi t) (hf : Fr layMod gi gi') : ∀ t, t < 6 → PaperInv gi' t := PI_ow h (Fr_owl hf)
theorem St_P {gi gi' : GI} {s t : Nat} (h : Stamps gi s) (hf : OnlyP t gi gi') : Stamps gi' s := Stamps_of h (hf 7 0 4 (by omega) (by omega) (by omega)) (fun j => hf 39 0 j (by omega) (by omega) (by omega))
/-- what a call that asks knows -/
theorem ask_of {n : Nat} {gi : GI} {g : AG} {Ls : Nat → List PC} (hC : Core n gi g Ls) : ∃ nt m s, BK gi g Ls nt m (gi 64 0) ∧ GOK g ∧ gi 1 0 1 = n32 nt ∧ nt ≤ 6 ∧ ThingsR gi 0 nt (gi 64 0) ∧ (∀ t, t < 6 → PaperInv gi t) ∧ s ≤ 300 * n ∧ Stamps gi s ∧ gi 64 0 796 = n32 nt := by
  obtain ⟨nt, m, hB⟩ := BK_of hC
  obtain ⟨s, hs2, hs⟩ := hC.2.2.2.2.1
  exact ⟨nt, m, s, hB, hC.1.1, hB.2.2.1.2.2.2.2.1, hB.2.2.1.1, hB.2.2.2.1, hC.2.2.2.1, hs2, hs, hB.2.2.1.2.2.1⟩
theorem e796_q {gi gi' : GI} {g g' : AG} {Ls : Nat → List PC} {nt m : Nat} {K : Nat → Int32} (h : BK gi g Ls nt m K) : gi 64 0 796 = n32 nt := by
  rw [h.1]
  exact h.2.2.1.2.2.1
theorem op_off (x y : Int32) : Op m_S_off m_M_off [.inl x, .inl y] := by
  intro D n gi g Ls Q hD hn hC hQ
  obtain ⟨d, rfl⟩ : ∃ d2, D = d2 + 20 := ⟨D - 20, by omega⟩
  obtain ⟨nt, m, s, hB, hG, b1, n6, hTh, hPI, hs2, hs, k796⟩ := ask_of hC
  rcases win_cases x nt (by omega) with ⟨t, ht, rfl⟩ | hw
  · have hv := thing_b hB ht
    have lk := likes_36 (Wk (gi 64 0) t) (Tk (gi 64 0) t)
    rcases win_cases y (likes (Wk (gi 64 0) t) (Tk (gi 64 0) t)) (by omega) with ⟨l, hl, rfl⟩ | hl
    · rw [e_S_off, b_S_off_0]
      refine c_paperFor (d := d + 13) hG b1 n6 hTh hPI ht hl ?_
      intro gi1 ho hp
      have hq1 := qMod_P ho
      have hB1 := BK_q hB hq1 (GF_refl hG)
      have hv1 := thing_b hB1 ht
      have k1 : gi1 64 0 796 = n32 nt := e796_q (gi' := gi) (g' := g) hB1
      simp (disch := omega) only [b_S_off_6b, b_S_off_15, b_S_off_21, G_0_0 hG, G_0_1 hG, G_0_2 hG, G_0_3 hG, G_0_7 hG, G_0_10 hG, G_0_12 hG, G_0_13 hG, G_0_14 hG, G_0_15 hG, G_0_16 hG, G_0_17 hG, G_1_0 hG, G_1_2 hG, G_1_5 hG, G_2_4 hG, G_2_5 hG, G_3_5 hG, G_3_6 hG, G_3_7 hG, G_3_8 hG, G_3_9 hG, G_5_0 hG, G_5_1 hG, G_6_0 hG, G_6_1 hG, G_6_2 hG, G_6_9 hG, G_6_10 hG, G_6_11 hG, G_6_12 hG, G_6_13 hG, G_7_0 hG, G_7_5 hG, G_8_8 hG, G_8_9 hG, G_9_8 hG, G_9_9 hG, G_10_7 hG, G_10_8 hG, G_10_9 hG, G_10_10 hG, G_10_11 hG, G_11_0 hG, G_12_2 hG, G_12_3 hG, G_12_4 hG, G_12_5 hG, G_12_7 hG, G_12_8 hG, G_12_9 hG, G_12_12 hG, G_12_13 hG, G_12_14 hG, G_12_22 hG, G_12_23 hG, G_12_29 hG, G_12_30 hG, G_12_31 hG, G_12_37 hG, G_12_38 hG, G_12_39 hG, G_12_40 hG, G_12_41 hG, G_12_43 hG, G_12_46 hG, G_12_47 hG, G_12_48 hG, G_25 hG, G_26 hG, G_47 hG, G_58 hG, hp.2.2.2.2.2.1 l hl, n32_add, n32_mul, n32_lt, n32_le, n32_eq, n32_clamp, n32_inT, n32_div, n32_rem, n32_m1, n32_m1', n32_m1lt, n32_ltm1, n32_10, n32_01, Nat.not_lt_zero, Nat.lt_irrefl, Nat.mul_zero, Nat.zero_mul, Nat.zero_add, Nat.add_zero, Nat.reduceEqDiff, Nat.one_ne_zero, Nat.zero_ne_one, ax_psh_none, ax_psh_some, true_and, and_true, and_false, false_and, not_true_eq_false, not_false_eq_true, true_imp_iff, false_imp_iff, imp_self, or_true, true_or, or_false, false_or, and_self, ite_true, ite_false, if_true, if_false]
      rw [e_M_off, b_M_off_0]
      simp (disch := omega) only [b_M_off_5, b_M_off_10, c_M_isThing _ _ _ _ hG, k1, win_sT ht (by omega), n32_add, n32_mul, n32_lt, n32_le, n32_eq, n32_clamp, n32_inT, n32_div, n32_rem, n32_m1, n32_m1', n32_m1lt, n32_ltm1, n32_10, n32_01, Nat.not_lt_zero, Nat.lt_irrefl, Nat.mul_zero, Nat.zero_mul, Nat.zero_add, Nat.add_zero, Nat.reduceEqDiff, Nat.one_ne_zero, Nat.zero_ne_one, ax_psh_none, ax_psh_some, true_and, and_true, and_false, false_and, not_true_eq_false, not_false_eq_true, true_imp_iff, false_imp_iff, imp_self, or_true, true_or, or_false, false_or, and_self, ite_true, ite_false, if_true, if_false]
      refine c_M_lays (d := d + 17) hG (by omega) hv1.2.1 ?_
      intro gi2 fr2 hl2 h27 h28
      simp (disch := omega) only [b_M_off_15, b_M_off_20, b_M_off_23, b_M_off_28, b_M_off_32, c_M_isLike _ _ _ _ hl2.2.1 hl2.2.2.1 hl2.2.2.2.1 hl2.2.2.2.2.1, win_sT hl (by omega), c_M_offOf _ hG hl2 hv.1.2.2.2.1.1 hv.1.2.2.2.2.1.1 hl, n32_add, n32_mul, n32_lt, n32_le, n32_eq, n32_clamp, n32_inT, n32_div, n32_rem, n32_m1, n32_m1', n32_m1lt, n32_ltm1, n32_10, n32_01, Nat.not_lt_zero, Nat.lt_irrefl, Nat.mul_zero, Nat.zero_mul, Nat.zero_add, Nat.add_zero, Nat.reduceEqDiff, Nat.one_ne_zero, Nat.zero_ne_one, ax_psh_none, ax_psh_some, true_and, and_true, and_false, false_and, not_true_eq_false, not_false_eq_true, true_imp_iff, false_imp_iff, imp_self, or_true, true_or, or_false, false_or, and_self, ite_true, ite_false, if_true, if_false]
      exact q_end hC hQ (Fr_trans hq1 (qMod_lay fr2)) (GF_refl hG) (PI_lay (PI_P hPI ho (Pap_inv hp)) fr2) (St_ow (St_P hs ho) (Fr_owl fr2)) (by omega) _
    · rw [e_S_off, b_S_off_0, c_paperFor_l (d + 13) hG b1 n6 hTh ht hl]
      simp (disch := omega) only [b_S_off_6a, b_S_off_11, b_S_off_21, G_0_0 hG, G_0_1 hG, G_0_2 hG, G_0_3 hG, G_0_7 hG, G_0_10 hG, G_0_12 hG, G_0_13 hG, G_0_14 hG, G_0_15 hG, G_0_16 hG, G_0_17 hG, G_1_0 hG, G_1_2 hG, G_1_5 hG, G_2_4 hG, G_2_5 hG, G_3_5 hG, G_3_6 hG, G_3_7 hG, G_3_8 hG, G_3_9 hG, G_5_0 hG, G_5_1 hG, G_6_0 hG, G_6_1 hG, G_6_2 hG, G_6_9 hG, G_6_10 hG, G_6_11 hG, G_6_12 hG, G_6_13 hG, G_7_0 hG, G_7_5 hG, G_8_8 hG, G_8_9 hG, G_9_8 hG, G_9_9 hG, G_10_7 hG, G_10_8 hG, G_10_9 hG, G_10_10 hG, G_10_11 hG, G_11_0 hG, G_12_2 hG, G_12_3 hG, G_12_4 hG, G_12_5 hG, G_12_7 hG, G_12_8 hG, G_12_9 hG, G_12_12 hG, G_12_13 hG, G_12_14 hG, G_12_22 hG, G_12_23 hG, G_12_29 hG, G_12_30 hG, G_12_31 hG, G_12_37 hG, G_12_38 hG, G_12_39 hG, G_12_40 hG, G_12_41 hG, G_12_43 hG, G_12_46 hG, G_12_47 hG, G_12_48 hG, G_25 hG, G_26 hG, G_47 hG, G_58 hG, n32_add, n32_mul, n32_lt, n32_le, n32_eq, n32_clamp, n32_inT, n32_div, n32_rem, n32_m1, n32_m1', n32_m1lt, n32_ltm1, n32_10, n32_01, Nat.not_lt_zero, Nat.lt_irrefl, Nat.mul_zero, Nat.zero_mul, Nat.zero_add, Nat.add_zero, Nat.reduceEqDiff, Nat.one_ne_zero, Nat.zero_ne_one, ax_psh_none, ax_psh_some, true_and, and_true, and_false, false_and, not_true_eq_false, not_false_eq_true, true_imp_iff, false_imp_iff, imp_self, or_true, true_or, or_false, false_or, and_self, ite_true, ite_false, if_true, if_false]
      rw [e_M_off, b_M_off_0]
      simp (disch := omega) only [b_M_off_5, b_M_off_10, c_M_isThing _ _ _ _ hG, k796, win_sT ht (by omega), n32_add, n32_mul, n32_lt, n32_le, n32_eq, n32_clamp, n32_inT, n32_div, n32_rem, n32_m1, n32_m1', n32_m1lt, n32_ltm1, n32_10, n32_01, Nat.not_lt_zero, Nat.lt_irrefl, Nat.mul_zero, Nat.zero_mul, Nat.zero_add, Nat.add_zero, Nat.reduceEqDiff, Nat.one_ne_zero, Nat.zero_ne_one, ax_psh_none, ax_psh_some, true_and, and_true, and_false, false_and, not_true_eq_false, not_false_eq_true, true_imp_iff, false_imp_iff, imp_self, or_true, true_or, or_false, false_or, and_self, ite_true, ite_false, if_true, if_false]
      refine c_M_lays (d := d + 17) hG (by omega) hv.2.1 ?_
      intro gi2 fr2 hl2 h27 h28
      simp (disch := omega) only [b_M_off_15, b_M_off_20, b_M_off_31, b_M_off_32, c_M_isLike _ _ _ _ hl2.2.1 hl2.2.2.1 hl2.2.2.2.1 hl2.2.2.2.2.1, hl, n32_add, n32_mul, n32_lt, n32_le, n32_eq, n32_clamp, n32_inT, n32_div, n32_rem, n32_m1, n32_m1', n32_m1lt, n32_ltm1, n32_10, n32_01, Nat.not_lt_zero, Nat.lt_irrefl, Nat.mul_zero, Nat.zero_mul, Nat.zero_add, Nat.add_zero, Nat.reduceEqDiff, Nat.one_ne_zero, Nat.zero_ne_one, ax_psh_none, ax_psh_some, true_and, and_true, and_false, false_and, not_true_eq_false, not_false_eq_true, true_imp_iff, false_imp_iff, imp_self, or_true, true_or, or_false, false_or, and_self, ite_true, ite_false, if_true, if_false]
      exact q_end hC hQ (qMod_lay fr2) (GF_refl hG) (PI_lay hPI fr2) (St_ow hs (Fr_owl fr2)) (by omega) _
  · rw [e_S_off, b_S_off_0, c_paperFor_n (d + 13) _ _ _ hG b1 hw]
    simp (disch := omega) only [b_S_off_6a, b_S_off_11, b_S_off_21, e_M_off, b_M_off_0, b_M_off_5, b_M_off_8, c_M_isThing _ _ _ _ hG, k796, hw, G_0_0 hG, G_0_1 hG, G_0_2 hG, G_0_3 hG, G_0_7 hG, G_0_10 hG, G_0_12 hG, G_0_13 hG, G_0_14 hG, G_0_15 hG, G_0_16 hG, G_0_17 hG, G_1_0 hG, G_1_2 hG, G_1_5 hG, G_2_4 hG, G_2_5 hG, G_3_5 hG, G_3_6 hG, G_3_7 hG, G_3_8 hG, G_3_9 hG, G_5_0 hG, G_5_1 hG, G_6_0 hG, G_6_1 hG, G_6_2 hG, G_6_9 hG, G_6_10 hG, G_6_11 hG, G_6_12 hG, G_6_13 hG, G_7_0 hG, G_7_5 hG, G_8_8 hG, G_8_9 hG, G_9_8 hG, G_9_9 hG, G_10_7 hG, G_10_8 hG, G_10_9 hG, G_10_10 hG, G_10_11 hG, G_11_0 hG, G_12_2 hG, G_12_3 hG, G_12_4 hG, G_12_5 hG, G_12_7 hG, G_12_8 hG, G_12_9 hG, G_12_12 hG, G_12_13 hG, G_12_14 hG, G_12_22 hG, G_12_23 hG, G_12_29 hG, G_12_30 hG, G_12_31 hG, G_12_37 hG, G_12_38 hG, G_12_39 hG, G_12_40 hG, G_12_41 hG, G_12_43 hG, G_12_46 hG, G_12_47 hG, G_12_48 hG, G_25 hG, G_26 hG, G_47 hG, G_58 hG, n32_add, n32_mul, n32_lt, n32_le, n32_eq, n32_clamp, n32_inT, n32_div, n32_rem, n32_m1, n32_m1', n32_m1lt, n32_ltm1, n32_10, n32_01, Nat.not_lt_zero, Nat.lt_irrefl, Nat.mul_zero, Nat.zero_mul, Nat.zero_add, Nat.add_zero, Nat.reduceEqDiff, Nat.one_ne_zero, Nat.zero_ne_one, ax_psh_none, ax_psh_some, true_and, and_true, and_false, false_and, not_true_eq_false, not_false_eq_true, true_imp_iff, false_imp_iff, imp_self, or_true, true_or, or_false, false_or, and_self, ite_true, ite_false, if_true, if_false]
    exact op_end (D := d) (Core_same hC) hQ _
theorem op_tax (x y : Int32) : Op m_S_tax m_M_tax [.inl x, .inl y] := by
  intro D n gi g Ls Q hD hn hC hQ
  obtain ⟨d, rfl⟩ : ∃ d2, D = d2 + 60 := ⟨D - 60, by omega⟩
  obtain ⟨nt, m, s, hB, hG, b1, n6, hTh, hPI, hs2, hs, k796⟩ := ask_of hC
  rcases win_cases x nt (by omega) with ⟨t, ht, rfl⟩ | hw
  · have hv := thing_b hB ht
    have lk := likes_36 (Wk (gi 64 0) t) (Tk (gi 64 0) t)
    rcases win_cases y (likes (Wk (gi 64 0) t) (Tk (gi 64 0) t)) (by omega) with ⟨l, hl, rfl⟩ | hl
    · have hol := off_le (Wk (gi 64 0) t) (Tk (gi 64 0) t) (bk (gi 64 0) t) l
      have h64 := wt64 hv.1.2.2.2.1.2 hv.1.2.2.2.2.1.2
      rw [e_S_tax, b_S_tax_0]
      refine c_paperFor (d := d + 53) hG b1 n6 hTh hPI ht hl ?_
      intro gi1 ho hp
      have hq1 := qMod_P ho
      have hB1 := BK_q hB hq1 (GF_refl hG)
      have hp1 : PapK gi1 (gi1 64 0) t := by rw [hB1.1]; exact hp
      simp (disch := omega) only [b_S_tax_6b, b_S_tax_13, ax_psh_none, ax_psh_some, true_and, and_true, and_false, false_and, not_true_eq_false, not_false_eq_true, true_imp_iff, false_imp_iff, imp_self, or_true, true_or, or_false, false_or, and_self, ite_true, ite_false, if_true, if_false]
      refine c_handOver (d := d + 55) hB1 ht hp (St_P hs ho) (by omega) ?_
      intro gi2 g2 lw fr2 gf2 hc2
      have hG := gf2.2.1
      have hp2 := Pap_co hp fr2
      have e55 := hp2.2.2.2.2.2.1 l hl
      have e33 := hp2.2.2.1
      simp (disch := omega) only [b_S_tax_18, G_0_0 hG, G_0_1 hG, G_0_2 hG, G_0_3 hG, G_0_7 hG, G_0_10 hG, G_0_12 hG, G_0_13 hG, G_0_14 hG, G_0_15 hG, G_0_16 hG, G_0_17 hG, G_1_0 hG, G_1_2 hG, G_1_5 hG, G_2_4 hG, G_2_5 hG, G_3_5 hG, G_3_6 hG, G_3_7 hG, G_3_8 hG, G_3_9 hG, G_5_0 hG, G_5_1 hG, G_6_0 hG, G_6_1 hG, G_6_2 hG, G_6_9 hG, G_6_10 hG, G_6_11 hG, G_6_12 hG, G_6_13 hG, G_7_0 hG, G_7_5 hG, G_8_8 hG, G_8_9 hG, G_9_8 hG, G_9_9 hG, G_10_7 hG, G_10_8 hG, G_10_9 hG, G_10_10 hG, G_10_11 hG, G_11_0 hG, G_12_2 hG, G_12_3 hG, G_12_4 hG, G_12_5 hG, G_12_7 hG, G_12_8 hG, G_12_9 hG, G_12_12 hG, G_12_13 hG, G_12_14 hG, G_12_22 hG, G_12_23 hG, G_12_29 hG, G_12_30 hG, G_12_31 hG, G_12_37 hG, G_12_38 hG, G_12_39 hG, G_12_40 hG, G_12_41 hG, G_12_43 hG, G_12_46 hG, G_12_47 hG, G_12_48 hG, G_25 hG, G_26 hG, G_47 hG, G_58 hG, e55, e33, n32_add, n32_mul, n32_lt, n32_le, n32_eq, n32_clamp, n32_inT, n32_div, n32_rem, n32_m1, n32_m1', n32_m1lt, n32_ltm1, n32_10, n32_01, Nat.not_lt_zero, Nat.lt_irrefl, Nat.mul_zero, Nat.zero_mul, Nat.zero_add, Nat.add_zero, Nat.reduceEqDiff, Nat.one_ne_zero, Nat.zero_ne_one, ax_psh_none, ax_psh_some, true_and, and_true, and_false, false_and, not_true_eq_false, not_false_eq_true, true_imp_iff, false_imp_iff, imp_self, or_true, true_or, or_false, false_or, and_self, ite_true, ite_false, if_true, if_false]
      refine c_taxBy (d := d + 55) hG hc2 (by omega) (by omega) (pts_le _ _) ?_
      intro gi3 fr3 hc3
      have hq3 := Fr_trans (Fr_trans hq1 (q_co fr2)) (qMod_clk fr3)
      have hB3 := BK_q hB hq3 gf2
      have hv3 := thing_b hB3 ht
      have k3 : gi3 64 0 796 = n32 nt := e796_q (gi' := gi) (g' := g) hB3
      have hL := lawM_b hB3 hB3.2.2.1.2.2.2.2.2.2.2.1
      obtain ⟨⟨a1, a2⟩, ⟨a3, a4⟩, -, -⟩ := terms_k hB3.2.2.1.2.2.2.2.2.2.2.2.1
      simp only [b_S_tax_36, ax_psh_none, ax_psh_some, true_and, and_true, and_false, false_and, not_true_eq_false, not_false_eq_true, true_imp_iff, false_imp_iff, imp_self, or_true, true_or, or_false, false_or, and_self, ite_true, ite_false, if_true, if_false]
      rw [e_M_tax, b_M_tax_0]
      simp (disch := omega) only [b_M_tax_5, b_M_tax_10, c_M_isThing _ _ _ _ hG, k3, win_sT ht (by omega), n32_add, n32_mul, n32_lt, n32_le, n32_eq, n32_clamp, n32_inT, n32_div, n32_rem, n32_m1, n32_m1', n32_m1lt, n32_ltm1, n32_10, n32_01, Nat.not_lt_zero, Nat.lt_irrefl, Nat.mul_zero, Nat.zero_mul, Nat.zero_add, Nat.add_zero, Nat.reduceEqDiff, Nat.one_ne_zero, Nat.zero_ne_one, ax_psh_none, ax_psh_some, true_and, and_true, and_false, false_and, not_true_eq_false, not_false_eq_true, true_imp_iff, false_imp_iff, imp_self, or_true, true_or, or_false, false_or, and_self, ite_true, ite_false, if_true, if_false]
      refine c_M_lays (d := d + 57) hG (by omega) hv3.2.1 ?_
      intro gi4 fr4 hl4 h27 h28
      simp (disch := omega) only [b_M_tax_15, b_M_tax_20, b_M_tax_23, b_M_tax_30, c_M_isLike _ _ _ _ hl4.2.1 hl4.2.2.1 hl4.2.2.2.1 hl4.2.2.2.2.1, win_sT hl (by omega), c_M_offOf _ hG hl4 hv.1.2.2.2.1.1 hv.1.2.2.2.2.1.1 hl, n32_add, n32_mul, n32_lt, n32_le, n32_eq, n32_clamp, n32_inT, n32_div, n32_rem, n32_m1, n32_m1', n32_m1lt, n32_ltm1, n32_10, n32_01, Nat.not_lt_zero, Nat.lt_irrefl, Nat.mul_zero, Nat.zero_mul, Nat.zero_add, Nat.add_zero, Nat.reduceEqDiff, Nat.one_ne_zero, Nat.zero_ne_one, ax_psh_none, ax_psh_some, true_and, and_true, and_false, false_and, not_true_eq_false, not_false_eq_true, true_imp_iff, false_imp_iff, imp_self, or_true, true_or, or_false, false_or, and_self, ite_true, ite_false, if_true, if_false]
      have e64 : ∀ j, gi4 64 0 j = gi3 64 0 j := fun j => fr4 64 0 j rfl
      refine c_M_tax (D := d + 59) (by omega) hG hl4 ((e64 _).trans hv3.2.1.2.2.1) hv3.2.2.1 (dy := dyk (gi 64 0)) ?_ (by omega) (L := lawL Ls (gi 64 0 798)) ?_ (by omega) (by omega) ?_
      · rw [h28, hB3.1]
        exact a3
      · refine ForceM_LawM ?_ h27 e64
        unfold ForceM
        rw [hB3.1] at hL ⊢
        exact hL
      · intro gi5 fr5
        simp only [b_M_tax_33, b_M_tax_37, ax_psh_none, ax_psh_some, true_and, and_true, and_false, false_and, not_true_eq_false, not_false_eq_true, true_imp_iff, false_imp_iff, imp_self, or_true, true_or, or_false, false_or, and_self, ite_true, ite_false, if_true, if_false]
        have fr45 := Fr_trans (Fr_owl fr4) (Fr_owt fr5)
        exact q_end hC hQ (Fr_trans hq3 (qMod_ow fr45)) gf2 (PI_ow (PI_co (PI_P hPI ho (Pap_inv hp)) (Fr_trans fr2 (co_clk fr3))) fr45) (St_ow hc3.2.2.2.1 fr45) (by omega) _
    · rw [e_S_tax, b_S_tax_0, c_paperFor_l (d + 53) hG b1 n6 hTh ht hl]
      simp (disch := omega) only [b_S_tax_6a, b_S_tax_11, G_0_0 hG, G_0_1 hG, G_0_2 hG, G_0_3 hG, G_0_7 hG, G_0_10 hG, G_0_12 hG, G_0_13 hG, G_0_14 hG, G_0_15 hG, G_0_16 hG, G_0_17 hG, G_1_0 hG, G_1_2 hG, G_1_5 hG, G_2_4 hG, G_2_5 hG, G_3_5 hG, G_3_6 hG, G_3_7 hG, G_3_8 hG, G_3_9 hG, G_5_0 hG, G_5_1 hG, G_6_0 hG, G_6_1 hG, G_6_2 hG, G_6_9 hG, G_6_10 hG, G_6_11 hG, G_6_12 hG, G_6_13 hG, G_7_0 hG, G_7_5 hG, G_8_8 hG, G_8_9 hG, G_9_8 hG, G_9_9 hG, G_10_7 hG, G_10_8 hG, G_10_9 hG, G_10_10 hG, G_10_11 hG, G_11_0 hG, G_12_2 hG, G_12_3 hG, G_12_4 hG, G_12_5 hG, G_12_7 hG, G_12_8 hG, G_12_9 hG, G_12_12 hG, G_12_13 hG, G_12_14 hG, G_12_22 hG, G_12_23 hG, G_12_29 hG, G_12_30 hG, G_12_31 hG, G_12_37 hG, G_12_38 hG, G_12_39 hG, G_12_40 hG, G_12_41 hG, G_12_43 hG, G_12_46 hG, G_12_47 hG, G_12_48 hG, G_25 hG, G_26 hG, G_47 hG, G_58 hG, n32_add, n32_mul, n32_lt, n32_le, n32_eq, n32_clamp, n32_inT, n32_div, n32_rem, n32_m1, n32_m1', n32_m1lt, n32_ltm1, n32_10, n32_01, Nat.not_lt_zero, Nat.lt_irrefl, Nat.mul_zero, Nat.zero_mul, Nat.zero_add, Nat.add_zero, Nat.reduceEqDiff, Nat.one_ne_zero, Nat.zero_ne_one, ax_psh_none, ax_psh_some, true_and, and_true, and_false, false_and, not_true_eq_false, not_false_eq_true, true_imp_iff, false_imp_iff, imp_self, or_true, true_or, or_false, false_or, and_self, ite_true, ite_false, if_true, if_false]
      rw [e_M_tax, b_M_tax_0]
      simp (disch := omega) only [b_M_tax_5, b_M_tax_10, c_M_isThing _ _ _ _ hG, k796, win_sT ht (by omega), n32_add, n32_mul, n32_lt, n32_le, n32_eq, n32_clamp, n32_inT, n32_div, n32_rem, n32_m1, n32_m1', n32_m1lt, n32_ltm1, n32_10, n32_01, Nat.not_lt_zero, Nat.lt_irrefl, Nat.mul_zero, Nat.zero_mul, Nat.zero_add, Nat.add_zero, Nat.reduceEqDiff, Nat.one_ne_zero, Nat.zero_ne_one, ax_psh_none, ax_psh_some, true_and, and_true, and_false, false_and, not_true_eq_false, not_false_eq_true, true_imp_iff, false_imp_iff, imp_self, or_true, true_or, or_false, false_or, and_self, ite_true, ite_false, if_true, if_false]
      refine c_M_lays (d := d + 57) hG (by omega) hv.2.1 ?_
      intro gi2 fr2 hl2 h27 h28
      simp (disch := omega) only [b_M_tax_15, b_M_tax_20, b_M_tax_36, b_M_tax_37, c_M_isLike _ _ _ _ hl2.2.1 hl2.2.2.1 hl2.2.2.2.1 hl2.2.2.2.2.1, hl, n32_add, n32_mul, n32_lt, n32_le, n32_eq, n32_clamp, n32_inT, n32_div, n32_rem, n32_m1, n32_m1', n32_m1lt, n32_ltm1, n32_10, n32_01, Nat.not_lt_zero, Nat.lt_irrefl, Nat.mul_zero, Nat.zero_mul, Nat.zero_add, Nat.add_zero, Nat.reduceEqDiff, Nat.one_ne_zero, Nat.zero_ne_one, ax_psh_none, ax_psh_some, true_and, and_true, and_false, false_and, not_true_eq_false, not_false_eq_true, true_imp_iff, false_imp_iff, imp_self, or_true, true_or, or_false, false_or, and_self, ite_true, ite_false, if_true, if_false]
      exact q_end hC hQ (qMod_lay fr2) (GF_refl hG) (PI_lay hPI fr2) (St_ow hs (Fr_owl fr2)) (by omega) _
  · rw [e_S_tax, b_S_tax_0, c_paperFor_n (d + 53) _ _ _ hG b1 hw]
    simp (disch := omega) only [b_S_tax_6a, b_S_tax_11, e_M_tax, b_M_tax_0, b_M_tax_5, b_M_tax_8, c_M_isThing _ _ _ _ hG, k796, hw, G_0_0 hG, G_0_1 hG, G_0_2 hG, G_0_3 hG, G_0_7 hG, G_0_10 hG, G_0_12 hG, G_0_13 hG, G_0_14 hG, G_0_15 hG, G_0_16 hG, G_0_17 hG, G_1_0 hG, G_1_2 hG, G_1_5 hG, G_2_4 hG, G_2_5 hG, G_3_5 hG, G_3_6 hG, G_3_7 hG, G_3_8 hG, G_3_9 hG, G_5_0 hG, G_5_1 hG, G_6_0 hG, G_6_1 hG, G_6_2 hG, G_6_9 hG, G_6_10 hG, G_6_11 hG, G_6_12 hG, G_6_13 hG, G_7_0 hG, G_7_5 hG, G_8_8 hG, G_8_9 hG, G_9_8 hG, G_9_9 hG, G_10_7 hG, G_10_8 hG, G_10_9 hG, G_10_10 hG, G_10_11 hG, G_11_0 hG, G_12_2 hG, G_12_3 hG, G_12_4 hG, G_12_5 hG, G_12_7 hG, G_12_8 hG, G_12_9 hG, G_12_12 hG, G_12_13 hG, G_12_14 hG, G_12_22 hG, G_12_23 hG, G_12_29 hG, G_12_30 hG, G_12_31 hG, G_12_37 hG, G_12_38 hG, G_12_39 hG, G_12_40 hG, G_12_41 hG, G_12_43 hG, G_12_46 hG, G_12_47 hG, G_12_48 hG, G_25 hG, G_26 hG, G_47 hG, G_58 hG, n32_add, n32_mul, n32_lt, n32_le, n32_eq, n32_clamp, n32_inT, n32_div, n32_rem, n32_m1, n32_m1', n32_m1lt, n32_ltm1, n32_10, n32_01, Nat.not_lt_zero, Nat.lt_irrefl, Nat.mul_zero, Nat.zero_mul, Nat.zero_add, Nat.add_zero, Nat.reduceEqDiff, Nat.one_ne_zero, Nat.zero_ne_one, ax_psh_none, ax_psh_some, true_and, and_true, and_false, false_and, not_true_eq_false, not_false_eq_true, true_imp_iff, false_imp_iff, imp_self, or_true, true_or, or_false, false_or, and_self, ite_true, ite_false, if_true, if_false]
    exact op_end (D := d) (Core_same hC) hQ _
def hasB (K : Nat → Int32) (t l : Nat) : Bool := decide (offF (Wk K t) (Tk K t) (bk K t) l ≤ slk K)
theorem maskS_yes {S : Nat → Bool} {i : Nat} (h : S i = true) : maskS S (i + 1) = maskS S i ||| 2 ^ i := by
  show (if S i = true then _ else _) = _
  rw [if_pos h]
theorem maskS_no {S : Nat → Bool} {i : Nat} (h : S i = false) : maskS S (i + 1) = maskS S i := by
  show (if S i = true then _ else _) = _
  rw [if_neg (by rw [h]; decide)]
theorem maskS_cut {S : Nat → Bool} {m : Nat} : ∀ {n : Nat}, m ≤ n → maskS (fun i => decide (i < m) && S i) n = maskS S m
  | 0, h => by
    have : m = 0 := by omega
    subst this
    rfl
  | n + 1, h => by
    by_cases z : m = n + 1
    · subst z
      refine maskS_congr (fun i hi => ?_)
      show (decide (i < n + 1) && S i) = S i
      rw [decide_eq_true hi, Bool.true_and]
    · rw [maskS_no (by show (decide (n < m) && S n) = false; rw [decide_eq_false (by omega), Bool.false_and]), maskS_cut (n := n) (by omega)]
theorem op_has (x : Int32) : Op m_S_has m_M_has [.inl x] := by
  intro D n gi g Ls Q hD hn hC hQ
  obtain ⟨d, rfl⟩ : ∃ d2, D = d2 + 20 := ⟨D - 20, by omega⟩
  obtain ⟨nt, m, s, hB, hG, b1, n6, hTh, hPI, hs2, hs, k796⟩ := ask_of hC
  rcases win_cases x nt (by omega) with ⟨t, ht, rfl⟩ | hw
  · have hv := thing_b hB ht
    have lk := likes_36 (Wk (gi 64 0) t) (Tk (gi 64 0) t)
    have h64 := wt64 hv.1.2.2.2.1.2 hv.1.2.2.2.2.1.2
    have c0 : (n32 0).toNatClampNeg = 0 := by decide
    have c792 : (n32 792).toNatClampNeg = 792 := by decide
    rw [e_S_has, b_S_has_0]
    refine c_paperOf (d := d + 14) hG b1 n6 hTh hPI ht ?_
    intro gi1 ho hp
    have hq1 := qMod_P ho
    have hB1 := BK_q hB hq1 (GF_refl hG)
    have hv1 := thing_b hB1 ht
    have k1 : gi1 64 0 796 = n32 nt := e796_q (gi' := gi) (g' := g) hB1
    obtain ⟨⟨a1, a2⟩, -, -, -⟩ := terms_k hB1.2.2.1.2.2.2.2.2.2.2.2.1
    have t0 : gi1 28 0 0 = n32 (slk (gi 64 0)) := (hB1.2.2.1.2.2.2.2.2.2.2.2.2 0 (by omega)).trans a1
    have k792 : gi1 64 0 792 = n32 (slk (gi 64 0)) := by rw [hB1.1]; exact a1
    -- the reference
    have mm : ax_call (d + 20) m_M_has [.inr (.inr (some (12, 0))), .inl (n32 t)] (gi1, g) (fun r' h' => Q (some (.inl (n32 (maskS (hasB (gi 64 0) t) (likes (Wk (gi 64 0) t) (Tk (gi 64 0) t)))))) r' h') := by
      rw [e_M_has, b_M_has_0]
      simp (disch := omega) only [b_M_has_5, b_M_has_10, c_M_isThing _ _ _ _ hG, k1, win_sT ht (by omega), n32_add, n32_mul, n32_lt, n32_le, n32_eq, n32_clamp, n32_inT, n32_div, n32_rem, n32_m1, n32_m1', n32_m1lt, n32_ltm1, n32_10, n32_01, Nat.not_lt_zero, Nat.lt_irrefl, Nat.mul_zero, Nat.zero_mul, Nat.zero_add, Nat.add_zero, Nat.reduceEqDiff, Nat.one_ne_zero, Nat.zero_ne_one, ax_psh_none, ax_psh_some, true_and, and_true, and_false, false_and, not_true_eq_false, not_false_eq_true, true_imp_iff, false_imp_iff, imp_self, or_true, true_or, or_false, false_or, and_self, ite_true, ite_false, if_true, if_false]
      refine c_M_lays (d := d + 17) hG (by omega) hv1.2.1 ?_
      intro gi2 fr2 hl2 h27 h28
      have k2 : gi2 64 0 792 = n32 (slk (gi 64 0)) := (fr2 64 0 792 rfl).trans k792
      have key := loop_up (n := 6) (P := fun i => ∀ o1, Runs (d + 19) (m_M_has, 19, [some (.inr (.inr (some (12, 0)))), o1, some (.inl (n32 (maskS (fun l => decide (l < likes (Wk (gi 64 0) t) (Tk (gi 64 0) t)) && hasB (gi 64 0) t l) i))), some (.inl (n32 i))], []) (gi2, g) (fun r' h' => Q (some (.inl (n32 (maskS (hasB (gi 64 0) t) (likes (Wk (gi 64 0) t) (Tk (gi 64 0) t)))))) r' h')) ?_ ?_
      · simp only [b_M_has_15, ax_psh_none, ax_psh_some, true_and, and_true, and_false, false_and, not_true_eq_false, not_false_eq_true, true_imp_iff, false_imp_iff, imp_self, or_true, true_or, or_false, false_or, and_self, ite_true, ite_false, if_true, if_false]
        exact key 0 (by omega) _
      · intro i hi ih o1
        rw [b_M_has_19]
        by_cases hlk : i < likes (Wk (gi 64 0) t) (Tk (gi 64 0) t)
        · have hol := off_le (Wk (gi 64 0) t) (Tk (gi 64 0) t) (bk (gi 64 0) t) i
          by_cases z : offF (Wk (gi 64 0) t) (Tk (gi 64 0) t) (bk (gi 64 0) t) i ≤ slk (gi 64 0)
          · have nz : ¬ slk (gi 64 0) < offF (Wk (gi 64 0) t) (Tk (gi 64 0) t) (bk (gi 64 0) t) i := by omega
            have e := maskS_yes (S := fun l => decide (l < likes (Wk (gi 64 0) t) (Tk (gi 64 0) t)) && hasB (gi 64 0) t l) (i := i) (by show (_ && _) = true; rw [decide_eq_true hlk, Bool.true_and]; exact decide_eq_true z)
            simp (disch := omega) only [b_M_has_25, b_M_has_31, b_M_has_34, b_M_has_39, b_M_has_50, b_M_has_57, hi, c_M_isLike _ _ _ _ hl2.2.1 hl2.2.2.1 hl2.2.2.2.1 hl2.2.2.2.2.1, win_sT hlk (by omega), c_M_offOf _ hG hl2 hv.1.2.2.2.1.1 hv.1.2.2.2.2.1.1 hlk, c792, k2, nz, sl_ok (by omega : i < 10), or_ok, G_0_0 hG, G_0_1 hG, G_0_2 hG, G_0_3 hG, G_0_7 hG, G_0_10 hG, G_0_12 hG, G_0_13 hG, G_0_14 hG, G_0_15 hG, G_0_16 hG, G_0_17 hG, G_1_0 hG, G_1_2 hG, G_1_5 hG, G_2_4 hG, G_2_5 hG, G_3_5 hG, G_3_6 hG, G_3_7 hG, G_3_8 hG, G_3_9 hG, G_5_0 hG, G_5_1 hG, G_6_0 hG, G_6_1 hG, G_6_2 hG, G_6_9 hG, G_6_10 hG, G_6_11 hG, G_6_12 hG, G_6_13 hG, G_7_0 hG, G_7_5 hG, G_8_8 hG, G_8_9 hG, G_9_8 hG, G_9_9 hG, G_10_7 hG, G_10_8 hG, G_10_9 hG, G_10_10 hG, G_10_11 hG, G_11_0 hG, G_12_2 hG, G_12_3 hG, G_12_4 hG, G_12_5 hG, G_12_7 hG, G_12_8 hG, G_12_9 hG, G_12_12 hG, G_12_13 hG, G_12_14 hG, G_12_22 hG, G_12_23 hG, G_12_29 hG, G_12_30 hG, G_12_31 hG, G_12_37 hG, G_12_38 hG, G_12_39 hG, G_12_40 hG, G_12_41 hG, G_12_43 hG, G_12_46 hG, G_12_47 hG, G_12_48 hG, G_25 hG, G_26 hG, G_47 hG, G_58 hG, n32_add, n32_mul, n32_lt, n32_le, n32_eq, n32_clamp, n32_inT, n32_div, n32_rem, n32_m1, n32_m1', n32_m1lt, n32_ltm1, n32_10, n32_01, Nat.not_lt_zero, Nat.lt_irrefl, Nat.mul_zero, Nat.zero_mul, Nat.zero_add, Nat.add_zero, Nat.reduceEqDiff, Nat.one_ne_zero, Nat.zero_ne_one, ax_psh_none, ax_psh_some, true_and, and_true, and_false, false_and, not_true_eq_false, not_false_eq_true, true_imp_iff, false_imp_iff, imp_self, or_true, true_or, or_false, false_or, and_self, ite_true, ite_false, if_true, if_false]
            rw [← e]
            exact ih _
          · have nz : slk (gi 64 0) < offF (Wk (gi 64 0) t) (Tk (gi 64 0) t) (bk (gi 64 0) t) i := by omega
            have e := maskS_no (S := fun l => decide (l < likes (Wk (gi 64 0) t) (Tk (gi 64 0) t)) && hasB (gi 64 0) t l) (i := i) (by show (_ && _) = false; rw [show hasB (gi 64 0) t i = false from decide_eq_false z, Bool.and_false])
            simp (disch := omega) only [b_M_has_25, b_M_has_31, b_M_has_34, b_M_has_39, b_M_has_56, b_M_has_57, hi, c_M_isLike _ _ _ _ hl2.2.1 hl2.2.2.1 hl2.2.2.2.1 hl2.2.2.2.2.1, win_sT hlk (by omega), c_M_offOf _ hG hl2 hv.1.2.2.2.1.1 hv.1.2.2.2.2.1.1 hlk, c792, k2, nz, or_ok, Nat.or_zero, G_0_0 hG, G_0_1 hG, G_0_2 hG, G_0_3 hG, G_0_7 hG, G_0_10 hG, G_0_12 hG, G_0_13 hG, G_0_14 hG, G_0_15 hG, G_0_16 hG, G_0_17 hG, G_1_0 hG, G_1_2 hG, G_1_5 hG, G_2_4 hG, G_2_5 hG, G_3_5 hG, G_3_6 hG, G_3_7 hG, G_3_8 hG, G_3_9 hG, G_5_0 hG, G_5_1 hG, G_6_0 hG, G_6_1 hG, G_6_2 hG, G_6_9 hG, G_6_10 hG, G_6_11 hG, G_6_12 hG, G_6_13 hG, G_7_0 hG, G_7_5 hG, G_8_8 hG, G_8_9 hG, G_9_8 hG, G_9_9 hG, G_10_7 hG, G_10_8 hG, G_10_9 hG, G_10_10 hG, G_10_11 hG, G_11_0 hG, G_12_2 hG, G_12_3 hG, G_12_4 hG, G_12_5 hG, G_12_7 hG, G_12_8 hG, G_12_9 hG, G_12_12 hG, G_12_13 hG, G_12_14 hG, G_12_22 hG, G_12_23 hG, G_12_29 hG, G_12_30 hG, G_12_31 hG, G_12_37 hG, G_12_38 hG, G_12_39 hG, G_12_40 hG, G_12_41 hG, G_12_43 hG, G_12_46 hG, G_12_47 hG, G_12_48 hG, G_25 hG, G_26 hG, G_47 hG, G_58 hG, n32_add, n32_mul, n32_lt, n32_le, n32_eq, n32_clamp, n32_inT, n32_div, n32_rem, n32_m1, n32_m1', n32_m1lt, n32_ltm1, n32_10, n32_01, Nat.not_lt_zero, Nat.lt_irrefl, Nat.mul_zero, Nat.zero_mul, Nat.zero_add, Nat.add_zero, Nat.reduceEqDiff, Nat.one_ne_zero, Nat.zero_ne_one, ax_psh_none, ax_psh_some, true_and, and_true, and_false, false_and, not_true_eq_false, not_false_eq_true, true_imp_iff, false_imp_iff, imp_self, or_true, true_or, or_false, false_or, and_self, ite_true, ite_false, if_true, if_false]
            rw [← e]
            exact ih _
        · have hw2 : win (n32 i) (n32 0) (n32 (likes (Wk (gi 64 0) t) (Tk (gi 64 0) t)) - n32 1) = n32 0 := by
            rw [likes_sub]
            unfold win
            rw [if_neg (by rw [n32_lt (by omega) (by omega)]; omega), if_pos (by rw [n32_lt (by omega) (by omega)]; omega)]
          have e := maskS_no (S := fun l => decide (l < likes (Wk (gi 64 0) t) (Tk (gi 64 0) t)) && hasB (gi 64 0) t l) (i := i) (by show (_ && _) = false; rw [decide_eq_false hlk, Bool.false_and])
          simp (disch := omega) only [b_M_has_25, b_M_has_31, b_M_has_56, b_M_has_57, hi, c_M_isLike _ _ _ _ hl2.2.1 hl2.2.2.1 hl2.2.2.2.1 hl2.2.2.2.2.1, hw2, or_ok, Nat.or_zero, G_0_0 hG, G_0_1 hG, G_0_2 hG, G_0_3 hG, G_0_7 hG, G_0_10 hG, G_0_12 hG, G_0_13 hG, G_0_14 hG, G_0_15 hG, G_0_16 hG, G_0_17 hG, G_1_0 hG, G_1_2 hG, G_1_5 hG, G_2_4 hG, G_2_5 hG, G_3_5 hG, G_3_6 hG, G_3_7 hG, G_3_8 hG, G_3_9 hG, G_5_0 hG, G_5_1 hG, G_6_0 hG, G_6_1 hG, G_6_2 hG, G_6_9 hG, G_6_10 hG, G_6_11 hG, G_6_12 hG, G_6_13 hG, G_7_0 hG, G_7_5 hG, G_8_8 hG, G_8_9 hG, G_9_8 hG, G_9_9 hG, G_10_7 hG, G_10_8 hG, G_10_9 hG, G_10_10 hG, G_10_11 hG, G_11_0 hG, G_12_2 hG, G_12_3 hG, G_12_4 hG, G_12_5 hG, G_12_7 hG, G_12_8 hG, G_12_9 hG, G_12_12 hG, G_12_13 hG, G_12_14 hG, G_12_22 hG, G_12_23 hG, G_12_29 hG, G_12_30 hG, G_12_31 hG, G_12_37 hG, G_12_38 hG, G_12_39 hG, G_12_40 hG, G_12_41 hG, G_12_43 hG, G_12_46 hG, G_12_47 hG, G_12_48 hG, G_25 hG, G_26 hG, G_47 hG, G_58 hG, n32_add, n32_mul, n32_lt, n32_le, n32_eq, n32_clamp, n32_inT, n32_div, n32_rem, n32_m1, n32_m1', n32_m1lt, n32_ltm1, n32_10, n32_01, Nat.not_lt_zero, Nat.lt_irrefl, Nat.mul_zero, Nat.zero_mul, Nat.zero_add, Nat.add_zero, Nat.reduceEqDiff, Nat.one_ne_zero, Nat.zero_ne_one, ax_psh_none, ax_psh_some, true_and, and_true, and_false, false_and, not_true_eq_false, not_false_eq_true, true_imp_iff, false_imp_iff, imp_self, or_true, true_or, or_false, false_or, and_self, ite_true, ite_false, if_true, if_false]
          rw [← e]
          exact ih _
      · intro o1
        rw [b_M_has_19]
        simp (disch := omega) only [b_M_has_65, n32_add, n32_mul, n32_lt, n32_le, n32_eq, n32_clamp, n32_inT, n32_div, n32_rem, n32_m1, n32_m1', n32_m1lt, n32_ltm1, n32_10, n32_01, Nat.not_lt_zero, Nat.lt_irrefl, Nat.mul_zero, Nat.zero_mul, Nat.zero_add, Nat.add_zero, Nat.reduceEqDiff, Nat.one_ne_zero, Nat.zero_ne_one, ax_psh_none, ax_psh_some, true_and, and_true, and_false, false_and, not_true_eq_false, not_false_eq_true, true_imp_iff, false_imp_iff, imp_self, or_true, true_or, or_false, false_or, and_self, ite_true, ite_false, if_true, if_false]
        rw [maskS_cut (by omega)]
        exact q_end hC hQ (Fr_trans hq1 (qMod_lay fr2)) (GF_refl hG) (PI_lay (PI_P hPI ho (Pap_inv hp)) fr2) (St_ow (St_P hs ho) (Fr_owl fr2)) (by omega) _
    have e4 : gi1 3 t 4 = n32 (likes (Wk (gi 64 0) t) (Tk (gi 64 0) t)) := hp.1.2.2.1
    have key := loop_up (n := likes (Wk (gi 64 0) t) (Tk (gi 64 0) t)) (P := fun i => ∀ o1, Runs (d + 19) (m_S_has, 17, [some (.inr (.inr (some (0, 0)))), o1, some (.inr (.inr (some (3, t)))), some (.inl (n32 (maskS (hasB (gi 64 0) t) i))), some (.inl (n32 i))], []) (gi1, g) (fun r h => ax_call (d + 20) m_M_has [.inr (.inr (some (12, 0))), .inl (n32 t)] h (fun r' h' => Q r r' h'))) ?_ ?_
    · simp only [b_S_has_5b, b_S_has_12, ax_psh_none, ax_psh_some, true_and, and_true, and_false, false_and, not_true_eq_false, not_false_eq_true, true_imp_iff, false_imp_iff, imp_self, or_true, true_or, or_false, false_or, and_self, ite_true, ite_false, if_true, if_false]
      exact key 0 (by omega) _
    · intro i hi ih o1
      have hol := off_le (Wk (gi 64 0) t) (Tk (gi 64 0) t) (bk (gi 64 0) t) i
      have e55 := hp.2.2.2.2.2.1 i hi
      rw [b_S_has_17]
      by_cases z : offF (Wk (gi 64 0) t) (Tk (gi 64 0) t) (bk (gi 64 0) t) i ≤ slk (gi 64 0)
      · have nz : ¬ slk (gi 64 0) < offF (Wk (gi 64 0) t) (Tk (gi 64 0) t) (bk (gi 64 0) t) i := by omega
        have e := maskS_yes (S := hasB (gi 64 0) t) (i := i) (decide_eq_true z)
        simp (disch := omega) only [b_S_has_26, b_S_has_45, b_S_has_52, e4, hi, c0, t0, e55, nz, sl_ok (by omega : i < 10), or_ok, G_0_0 hG, G_0_1 hG, G_0_2 hG, G_0_3 hG, G_0_7 hG, G_0_10 hG, G_0_12 hG, G_0_13 hG, G_0_14 hG, G_0_15 hG, G_0_16 hG, G_0_17 hG, G_1_0 hG, G_1_2 hG, G_1_5 hG, G_2_4 hG, G_2_5 hG, G_3_5 hG, G_3_6 hG, G_3_7 hG, G_3_8 hG, G_3_9 hG, G_5_0 hG, G_5_1 hG, G_6_0 hG, G_6_1 hG, G_6_2 hG, G_6_9 hG, G_6_10 hG, G_6_11 hG, G_6_12 hG, G_6_13 hG, G_7_0 hG, G_7_5 hG, G_8_8 hG, G_8_9 hG, G_9_8 hG, G_9_9 hG, G_10_7 hG, G_10_8 hG, G_10_9 hG, G_10_10 hG, G_10_11 hG, G_11_0 hG, G_12_2 hG, G_12_3 hG, G_12_4 hG, G_12_5 hG, G_12_7 hG, G_12_8 hG, G_12_9 hG, G_12_12 hG, G_12_13 hG, G_12_14 hG, G_12_22 hG, G_12_23 hG, G_12_29 hG, G_12_30 hG, G_12_31 hG, G_12_37 hG, G_12_38 hG, G_12_39 hG, G_12_40 hG, G_12_41 hG, G_12_43 hG, G_12_46 hG, G_12_47 hG, G_12_48 hG, G_25 hG, G_26 hG, G_47 hG, G_58 hG, n32_add, n32_mul, n32_lt, n32_le, n32_eq, n32_clamp, n32_inT, n32_div, n32_rem, n32_m1, n32_m1', n32_m1lt, n32_ltm1, n32_10, n32_01, Nat.not_lt_zero, Nat.lt_irrefl, Nat.mul_zero, Nat.zero_mul, Nat.zero_add, Nat.add_zero, Nat.reduceEqDiff, Nat.one_ne_zero, Nat.zero_ne_one, ax_psh_none, ax_psh_some, true_and, and_true, and_false, false_and, not_true_eq_false, not_false_eq_true, true_imp_iff, false_imp_iff, imp_self, or_true, true_or, or_false, false_or, and_self, ite_true, ite_false, if_true, if_false]
        rw [← e]
        exact ih _
      · have nz : slk (gi 64 0) < offF (Wk (gi 64 0) t) (Tk (gi 64 0) t) (bk (gi 64 0) t) i := by omega
        have e := maskS_no (S := hasB (gi 64 0) t) (i := i) (decide_eq_false z)
        simp (disch := omega) only [b_S_has_26, b_S_has_52, e4, hi, c0, t0, e55, nz, G_0_0 hG, G_0_1 hG, G_0_2 hG, G_0_3 hG, G_0_7 hG, G_0_10 hG, G_0_12 hG, G_0_13 hG, G_0_14 hG, G_0_15 hG, G_0_16 hG, G_0_17 hG, G_1_0 hG, G_1_2 hG, G_1_5 hG, G_2_4 hG, G_2_5 hG, G_3_5 hG, G_3_6 hG, G_3_7 hG, G_3_8 hG, G_3_9 hG, G_5_0 hG, G_5_1 hG, G_6_0 hG, G_6_1 hG, G_6_2 hG, G_6_9 hG, G_6_10 hG, G_6_11 hG, G_6_12 hG, G_6_13 hG, G_7_0 hG, G_7_5 hG, G_8_8 hG, G_8_9 hG, G_9_8 hG, G_9_9 hG, G_10_7 hG, G_10_8 hG, G_10_9 hG, G_10_10 hG, G_10_11 hG, G_11_0 hG, G_12_2 hG, G_12_3 hG, G_12_4 hG, G_12_5 hG, G_12_7 hG, G_12_8 hG, G_12_9 hG, G_12_12 hG, G_12_13 hG, G_12_14 hG, G_12_22 hG, G_12_23 hG, G_12_29 hG, G_12_30 hG, G_12_31 hG, G_12_37 hG, G_12_38 hG, G_12_39 hG, G_12_40 hG, G_12_41 hG, G_12_43 hG, G_12_46 hG, G_12_47 hG, G_12_48 hG, G_25 hG, G_26 hG, G_47 hG, G_58 hG, n32_add, n32_mul, n32_lt, n32_le, n32_eq, n32_clamp, n32_inT, n32_div, n32_rem, n32_m1, n32_m1', n32_m1lt, n32_ltm1, n32_10, n32_01, Nat.not_lt_zero, Nat.lt_irrefl, Nat.mul_zero, Nat.zero_mul, Nat.zero_add, Nat.add_zero, Nat.reduceEqDiff, Nat.one_ne_zero, Nat.zero_ne_one, ax_psh_none, ax_psh_some, true_and, and_true, and_false, false_and, not_true_eq_false, not_false_eq_true, true_imp_iff, false_imp_iff, imp_self, or_true, true_or, or_false, false_or, and_self, ite_true, ite_false, if_true, if_false]
        rw [← e]
        exact ih _
    · intro o1
      rw [b_S_has_17]
      simp (disch := omega) only [b_S_has_58, e4, n32_add, n32_mul, n32_lt, n32_le, n32_eq, n32_clamp, n32_inT, n32_div, n32_rem, n32_m1, n32_m1', n32_m1lt, n32_ltm1, n32_10, n32_01, Nat.not_lt_zero, Nat.lt_irrefl, Nat.mul_zero, Nat.zero_mul, Nat.zero_add, Nat.add_zero, Nat.reduceEqDiff, Nat.one_ne_zero, Nat.zero_ne_one, ax_psh_none, ax_psh_some, true_and, and_true, and_false, false_and, not_true_eq_false, not_false_eq_true, true_imp_iff, false_imp_iff, imp_self, or_true, true_or, or_false, false_or, and_self, ite_true, ite_false, if_true, if_false]
      exact mm
  · rw [e_S_has, b_S_has_0, c_paperOf_n (d + 14) _ _ _ hG b1 hw]
    simp (disch := omega) only [b_S_has_5a, b_S_has_10, e_M_has, b_M_has_0, b_M_has_5, b_M_has_8, c_M_isThing _ _ _ _ hG, k796, hw, G_0_0 hG, G_0_1 hG, G_0_2 hG, G_0_3 hG, G_0_7 hG, G_0_10 hG, G_0_12 hG, G_0_13 hG, G_0_14 hG, G_0_15 hG, G_0_16 hG, G_0_17 hG, G_1_0 hG, G_1_2 hG, G_1_5 hG, G_2_4 hG, G_2_5 hG, G_3_5 hG, G_3_6 hG, G_3_7 hG, G_3_8 hG, G_3_9 hG, G_5_0 hG, G_5_1 hG, G_6_0 hG, G_6_1 hG, G_6_2 hG, G_6_9 hG, G_6_10 hG, G_6_11 hG, G_6_12 hG, G_6_13 hG, G_7_0 hG, G_7_5 hG, G_8_8 hG, G_8_9 hG, G_9_8 hG, G_9_9 hG, G_10_7 hG, G_10_8 hG, G_10_9 hG, G_10_10 hG, G_10_11 hG, G_11_0 hG, G_12_2 hG, G_12_3 hG, G_12_4 hG, G_12_5 hG, G_12_7 hG, G_12_8 hG, G_12_9 hG, G_12_12 hG, G_12_13 hG, G_12_14 hG, G_12_22 hG, G_12_23 hG, G_12_29 hG, G_12_30 hG, G_12_31 hG, G_12_37 hG, G_12_38 hG, G_12_39 hG, G_12_40 hG, G_12_41 hG, G_12_43 hG, G_12_46 hG, G_12_47 hG, G_12_48 hG, G_25 hG, G_26 hG, G_47 hG, G_58 hG, n32_add, n32_mul, n32_lt, n32_le, n32_eq, n32_clamp, n32_inT, n32_div, n32_rem, n32_m1, n32_m1', n32_m1lt, n32_ltm1, n32_10, n32_01, Nat.not_lt_zero, Nat.lt_irrefl, Nat.mul_zero, Nat.zero_mul, Nat.zero_add, Nat.add_zero, Nat.reduceEqDiff, Nat.one_ne_zero, Nat.zero_ne_one, ax_psh_none, ax_psh_some, true_and, and_true, and_false, false_and, not_true_eq_false, not_false_eq_true, true_imp_iff, false_imp_iff, imp_self, or_true, true_or, or_false, false_or, and_self, ite_true, ite_false, if_true, if_false]
    exact op_end (D := d) (Core_same hC) hQ _
