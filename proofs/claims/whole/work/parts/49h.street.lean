/-! street, best, bestAt, on both -/
theorem BK_wb {gi gi1 : GI} {g : AG} {Ls : Nat → List PC} {nt m : Nat} (hB : BK gi g Ls nt m (gi 64 0)) (fr1 : Fr wbMod gi gi1) : BK gi1 g Ls nt m (gi1 64 0) := by
  have e64 : gi1 64 0 = gi 64 0 := funext (fun j => fr1 64 0 j rfl)
  rw [e64]
  obtain ⟨-, q2, q3, q4, q5⟩ := hB
  exact ⟨e64, q2, BooksN_of q3 (fun j _ _ => rfl) (fun s j q => by rcases q with rfl | rfl <;> exact fr1 _ _ _ rfl), ThingsR_of q4 q3.1 (fun j _ => rfl) (fun s a j q => by rcases q with rfl | rfl | rfl <;> exact fr1 _ _ _ rfl), LawsR_of q5 q3.2.1 (fun j _ _ => rfl) (fun s a j q => by rcases q with rfl | rfl | rfl | rfl <;> exact fr1 _ _ _ rfl) (GF_refl q2)⟩
/-- when the street has been asked -/
theorem way_end {n v : Nat} {gi gi1 gi2 : GI} {g : AG} {Ls : Nat → List PC} (hC : Core n gi g Ls) (fr1 : Fr wbMod gi gi1) (hPI1 : ∀ u, u < 6 → PaperInv gi1 u) (hSW1 : SW gi1 v) (fr2 : Fr msMod gi1 gi2) : Core (n + 1) gi2 g Ls ∧ (∀ s a j, s = 0 ∨ s = 64 ∨ s = 8 ∨ s = 9 ∨ (43 ≤ s ∧ s ≤ 47) ∨ s = 77 ∨ (s = 12 ∧ (j < 15 ∨ (32 ≤ j ∧ j ≤ 36))) → gi2 s a j = gi s a j) ∧ SW gi2 v := by
  obtain ⟨s, hs2, hs⟩ := hC.2.2.2.2.1
  refine ⟨Core_s hC (fun s a j q => ?_) (GF_refl hC.1.1) (fun u hu => PaperInv_of (hPI1 u hu) (fun j => fr2 3 u j rfl) (fun a j => fr2 59 a j rfl)) ⟨s, by omega, Stamps_of hs ((fr2 7 0 4 rfl).trans (fr1 7 0 4 rfl)) (fun j => (fr2 39 0 j rfl).trans (fr1 39 0 j rfl))⟩, fun s a j q => ?_, SW_of hSW1 (fun j => fr2 10 0 j rfl) (fun j => fr2 49 0 j rfl) (fun j => fr2 51 0 j rfl) (fun j => fr2 64 0 j rfl)⟩
  · rw [fr2 s a j (msMod_no (by omega)), fr1 s a j (wbMod_no (by omega))]
  · rw [fr2 s a j (msMod_no (by omega)), fr1 s a j (wbMod_no (by omega))]
theorem op_street {D n v : Nat} {x : Int32} {gi : GI} {g : AG} {Ls : Nat → List PC} {Q : Option AV → Option AV → AH → Prop} (hD : 70 ≤ D) (hC : Core n gi g Ls) (h9 : gi 0 0 9 = n32 v) (hSW : SW gi v)
    (hQ : ∀ r gi' g', Core (n + 1) gi' g' Ls → (∀ s a j, s = 0 ∨ s = 64 ∨ s = 8 ∨ s = 9 ∨ (43 ≤ s ∧ s ≤ 47) ∨ s = 77 ∨ (s = 12 ∧ (j < 15 ∨ (32 ≤ j ∧ j ≤ 36))) → gi' s a j = gi s a j) → SW gi' v → Q (some (.inl r)) (some (.inl r)) (gi', g')) :
    ax_call D m_S_street [.inr (.inr (some (0, 0))), .inl x] (gi, g) (fun r h => ax_call D m_M_street [.inr (.inr (some (12, 0))), .inl x] h (fun r' h' => Q r r' h')) := by
  obtain ⟨d, rfl⟩ : ∃ d2, D = d2 + 50 := ⟨D - 50, by omega⟩
  obtain ⟨nt, m, s, hB, hG, b1, n6, hTh, hPI, hs2, hs, k796⟩ := ask_of hC
  have hte := hB.2.2.1.2.2.2.2.2.2.2.2.2
  obtain ⟨-, -, ⟨t1, t2, t3⟩, ⟨t4, t5⟩⟩ := terms_k hB.2.2.1.2.2.2.2.2.2.2.2.1
  have c3 : (n32 3).toNatClampNeg = 3 := by decide
  have c795 : (n32 795).toNatClampNeg = 795 := by decide
  have hn := nK_le (K := gi 64 0) n6
  have hpl : (plK (gi 64 0) nt 10).length = nK (gi 64 0) nt := pt_len (gi 64 0) nt 10
  rcases win_cases2 x 0 1 (by omega) (by omega) with ⟨w, -, hw, rfl⟩ | hx
  · rw [e_S_street]
    simp (disch := omega) only [b_S_street_0, b_S_street_6, b_S_street_11, c_S_within, win_T, n32_add, n32_mul, n32_lt, n32_le, n32_eq, n32_clamp, n32_inT, n32_div, n32_rem, n32_m1, n32_m1', n32_m1lt, n32_ltm1, n32_10, n32_01, Nat.not_lt_zero, Nat.lt_irrefl, Nat.mul_zero, Nat.zero_mul, Nat.zero_add, Nat.add_zero, Nat.reduceEqDiff, Nat.one_ne_zero, Nat.zero_ne_one, ax_psh_none, ax_psh_some, true_and, and_true, and_false, false_and, not_true_eq_false, not_false_eq_true, true_imp_iff, false_imp_iff, imp_self, or_true, true_or, or_false, false_or, and_self, ite_true, ite_false, if_true, if_false]
    refine c_seekBest (d := d + 37) hB hPI h9 hSW (fun gi1 fr1 hPI1 hSW1 hv1 => ?_)
    have hB1 := BK_wb hB fr1
    have e64 : gi1 64 0 = gi 64 0 := funext (fun j => fr1 64 0 j rfl)
    have e28 : gi1 28 0 3 = n32 (twk (gi 64 0)) := (fr1 28 0 3 rfl).trans ((hte 3 (by omega)).trans t4)
    have hth : ∀ i, i < nK (gi 64 0) nt → gt (thK (gi 64 0) nt 10) i < nt := fun i hi => by
      have hm : (thK (gi 64 0) nt 10).getD i 0 ∈ thK (gi 64 0) nt 10 := by
        rw [List.getD_eq_getElem?_getD, List.getElem?_eq_getElem hi]
        exact List.getElem_mem _
      exact (thK_mem hm).1
    -- the reference's twins
    have mtw : ∀ (gi2 : GI) (QQ : Option AV → AH → Prop), Fr msMod gi1 gi2 → StrM gi2 (gi1 64 0) nt → ax_call (d + 49) m_M_twins [.inr (.inr (some (12, 0)))] (gi2, g) QQ = QQ (some (.inl (n32 (pairsK (gi 64 0) nt)))) (gi2, g) := by
      intro gi2 QQ fr2 hs2
      rw [e64] at hs2
      obtain ⟨s42, s80, s82⟩ := hs2
      exact c_M_twins (d := d + 48) (nt := nt) (tw := twK (gi 64 0)) (pl := gt (plK (gi 64 0) nt 10)) (r := gt (thK (gi 64 0) nt 10)) hG n6 hn t3 s42 (fun i hi => ⟨(s80 i hi).1, plK_lt (by omega)⟩) (fun i j hij hj => plK_inc hij (by omega)) (fun i hi => ⟨(s80 i hi).2, hth i hi⟩) ((fr2 64 0 794 rfl).trans ((fr1 64 0 794 rfl).trans t1)) s82 (twK_le _) (fun a b ha hb => twK_sym hB ha hb)
    have ew : w = 0 ∨ w = 1 := by omega
    rcases ew with rfl | rfl
    · simp (disch := omega) only [b_S_street_15, b_S_street_19, b_S_street_46, c3, hv1.2.1, e28, G_0_0 hG, G_0_1 hG, G_0_2 hG, G_0_3 hG, G_0_7 hG, G_0_10 hG, G_0_12 hG, G_0_13 hG, G_0_14 hG, G_0_15 hG, G_0_16 hG, G_0_17 hG, G_1_0 hG, G_1_2 hG, G_1_5 hG, G_2_4 hG, G_2_5 hG, G_3_5 hG, G_3_6 hG, G_3_7 hG, G_3_8 hG, G_3_9 hG, G_5_0 hG, G_5_1 hG, G_6_0 hG, G_6_1 hG, G_6_2 hG, G_6_9 hG, G_6_10 hG, G_6_11 hG, G_6_12 hG, G_6_13 hG, G_7_0 hG, G_7_5 hG, G_8_8 hG, G_8_9 hG, G_9_8 hG, G_9_9 hG, G_10_7 hG, G_10_8 hG, G_10_9 hG, G_10_10 hG, G_10_11 hG, G_11_0 hG, G_12_2 hG, G_12_3 hG, G_12_4 hG, G_12_5 hG, G_12_7 hG, G_12_8 hG, G_12_9 hG, G_12_12 hG, G_12_13 hG, G_12_14 hG, G_12_22 hG, G_12_23 hG, G_12_29 hG, G_12_30 hG, G_12_31 hG, G_12_37 hG, G_12_38 hG, G_12_39 hG, G_12_40 hG, G_12_41 hG, G_12_43 hG, G_12_46 hG, G_12_47 hG, G_12_48 hG, G_25 hG, G_26 hG, G_47 hG, G_58 hG, n32_add, n32_mul, n32_lt, n32_le, n32_eq, n32_clamp, n32_inT, n32_div, n32_rem, n32_m1, n32_m1', n32_m1lt, n32_ltm1, n32_10, n32_01, Nat.not_lt_zero, Nat.lt_irrefl, Nat.mul_zero, Nat.zero_mul, Nat.zero_add, Nat.add_zero, Nat.reduceEqDiff, Nat.one_ne_zero, Nat.zero_ne_one, ax_psh_none, ax_psh_some, true_and, and_true, and_false, false_and, not_true_eq_false, not_false_eq_true, true_imp_iff, false_imp_iff, imp_self, or_true, true_or, or_false, false_or, and_self, ite_true, ite_false, if_true, if_false]
      rw [e_M_street]
      simp (disch := omega) only [b_M_street_0, b_M_street_6, b_M_street_11, c_M_lies, win_T, n32_add, n32_mul, n32_lt, n32_le, n32_eq, n32_clamp, n32_inT, n32_div, n32_rem, n32_m1, n32_m1', n32_m1lt, n32_ltm1, n32_10, n32_01, Nat.not_lt_zero, Nat.lt_irrefl, Nat.mul_zero, Nat.zero_mul, Nat.zero_add, Nat.add_zero, Nat.reduceEqDiff, Nat.one_ne_zero, Nat.zero_ne_one, ax_psh_none, ax_psh_some, true_and, and_true, and_false, false_and, not_true_eq_false, not_false_eq_true, true_imp_iff, false_imp_iff, imp_self, or_true, true_or, or_false, false_or, and_self, ite_true, ite_false, if_true, if_false]
      refine c_M_laysStreet (d := d + 44) hB1 (fun gi2 fr2 hs2 => ?_)
      have e795 : gi2 64 0 795 = n32 (twk (gi 64 0)) := (fr2 64 0 795 rfl).trans ((fr1 64 0 795 rfl).trans t4)
      simp (disch := omega) only [b_M_street_15, b_M_street_19, mtw gi2 _ fr2 hs2, b_M_street_31, b_M_street_39, c795, e795, G_0_0 hG, G_0_1 hG, G_0_2 hG, G_0_3 hG, G_0_7 hG, G_0_10 hG, G_0_12 hG, G_0_13 hG, G_0_14 hG, G_0_15 hG, G_0_16 hG, G_0_17 hG, G_1_0 hG, G_1_2 hG, G_1_5 hG, G_2_4 hG, G_2_5 hG, G_3_5 hG, G_3_6 hG, G_3_7 hG, G_3_8 hG, G_3_9 hG, G_5_0 hG, G_5_1 hG, G_6_0 hG, G_6_1 hG, G_6_2 hG, G_6_9 hG, G_6_10 hG, G_6_11 hG, G_6_12 hG, G_6_13 hG, G_7_0 hG, G_7_5 hG, G_8_8 hG, G_8_9 hG, G_9_8 hG, G_9_9 hG, G_10_7 hG, G_10_8 hG, G_10_9 hG, G_10_10 hG, G_10_11 hG, G_11_0 hG, G_12_2 hG, G_12_3 hG, G_12_4 hG, G_12_5 hG, G_12_7 hG, G_12_8 hG, G_12_9 hG, G_12_12 hG, G_12_13 hG, G_12_14 hG, G_12_22 hG, G_12_23 hG, G_12_29 hG, G_12_30 hG, G_12_31 hG, G_12_37 hG, G_12_38 hG, G_12_39 hG, G_12_40 hG, G_12_41 hG, G_12_43 hG, G_12_46 hG, G_12_47 hG, G_12_48 hG, G_25 hG, G_26 hG, G_47 hG, G_58 hG, n32_add, n32_mul, n32_lt, n32_le, n32_eq, n32_clamp, n32_inT, n32_div, n32_rem, n32_m1, n32_m1', n32_m1lt, n32_ltm1, n32_10, n32_01, Nat.not_lt_zero, Nat.lt_irrefl, Nat.mul_zero, Nat.zero_mul, Nat.zero_add, Nat.add_zero, Nat.reduceEqDiff, Nat.one_ne_zero, Nat.zero_ne_one, ax_psh_none, ax_psh_some, true_and, and_true, and_false, false_and, not_true_eq_false, not_false_eq_true, true_imp_iff, false_imp_iff, imp_self, or_true, true_or, or_false, false_or, and_self, ite_true, ite_false, if_true, if_false]
      obtain ⟨z1, z2, z3⟩ := way_end hC fr1 hPI1 hSW1 fr2
      have := hQ (n32 (pairsK (gi 64 0) nt * twk (gi 64 0))) gi2 g z1 z2 z3
      rw [Nat.mul_comm (twk (gi 64 0))]
      exact this
    · simp (disch := omega) only [b_S_street_15, b_S_street_39, b_S_street_46, hv1.2.1, G_0_0 hG, G_0_1 hG, G_0_2 hG, G_0_3 hG, G_0_7 hG, G_0_10 hG, G_0_12 hG, G_0_13 hG, G_0_14 hG, G_0_15 hG, G_0_16 hG, G_0_17 hG, G_1_0 hG, G_1_2 hG, G_1_5 hG, G_2_4 hG, G_2_5 hG, G_3_5 hG, G_3_6 hG, G_3_7 hG, G_3_8 hG, G_3_9 hG, G_5_0 hG, G_5_1 hG, G_6_0 hG, G_6_1 hG, G_6_2 hG, G_6_9 hG, G_6_10 hG, G_6_11 hG, G_6_12 hG, G_6_13 hG, G_7_0 hG, G_7_5 hG, G_8_8 hG, G_8_9 hG, G_9_8 hG, G_9_9 hG, G_10_7 hG, G_10_8 hG, G_10_9 hG, G_10_10 hG, G_10_11 hG, G_11_0 hG, G_12_2 hG, G_12_3 hG, G_12_4 hG, G_12_5 hG, G_12_7 hG, G_12_8 hG, G_12_9 hG, G_12_12 hG, G_12_13 hG, G_12_14 hG, G_12_22 hG, G_12_23 hG, G_12_29 hG, G_12_30 hG, G_12_31 hG, G_12_37 hG, G_12_38 hG, G_12_39 hG, G_12_40 hG, G_12_41 hG, G_12_43 hG, G_12_46 hG, G_12_47 hG, G_12_48 hG, G_25 hG, G_26 hG, G_47 hG, G_58 hG, n32_add, n32_mul, n32_lt, n32_le, n32_eq, n32_clamp, n32_inT, n32_div, n32_rem, n32_m1, n32_m1', n32_m1lt, n32_ltm1, n32_10, n32_01, Nat.not_lt_zero, Nat.lt_irrefl, Nat.mul_zero, Nat.zero_mul, Nat.zero_add, Nat.add_zero, Nat.reduceEqDiff, Nat.one_ne_zero, Nat.zero_ne_one, ax_psh_none, ax_psh_some, true_and, and_true, and_false, false_and, not_true_eq_false, not_false_eq_true, true_imp_iff, false_imp_iff, imp_self, or_true, true_or, or_false, false_or, and_self, ite_true, ite_false, if_true, if_false]
      rw [e_M_street]
      simp (disch := omega) only [b_M_street_0, b_M_street_6, b_M_street_11, c_M_lies, win_T, n32_add, n32_mul, n32_lt, n32_le, n32_eq, n32_clamp, n32_inT, n32_div, n32_rem, n32_m1, n32_m1', n32_m1lt, n32_ltm1, n32_10, n32_01, Nat.not_lt_zero, Nat.lt_irrefl, Nat.mul_zero, Nat.zero_mul, Nat.zero_add, Nat.add_zero, Nat.reduceEqDiff, Nat.one_ne_zero, Nat.zero_ne_one, ax_psh_none, ax_psh_some, true_and, and_true, and_false, false_and, not_true_eq_false, not_false_eq_true, true_imp_iff, false_imp_iff, imp_self, or_true, true_or, or_false, false_or, and_self, ite_true, ite_false, if_true, if_false]
      refine c_M_laysStreet (d := d + 44) hB1 (fun gi2 fr2 hs2 => ?_)
      simp (disch := omega) only [b_M_street_15, b_M_street_35, mtw gi2 _ fr2 hs2, b_M_street_39, G_0_0 hG, G_0_1 hG, G_0_2 hG, G_0_3 hG, G_0_7 hG, G_0_10 hG, G_0_12 hG, G_0_13 hG, G_0_14 hG, G_0_15 hG, G_0_16 hG, G_0_17 hG, G_1_0 hG, G_1_2 hG, G_1_5 hG, G_2_4 hG, G_2_5 hG, G_3_5 hG, G_3_6 hG, G_3_7 hG, G_3_8 hG, G_3_9 hG, G_5_0 hG, G_5_1 hG, G_6_0 hG, G_6_1 hG, G_6_2 hG, G_6_9 hG, G_6_10 hG, G_6_11 hG, G_6_12 hG, G_6_13 hG, G_7_0 hG, G_7_5 hG, G_8_8 hG, G_8_9 hG, G_9_8 hG, G_9_9 hG, G_10_7 hG, G_10_8 hG, G_10_9 hG, G_10_10 hG, G_10_11 hG, G_11_0 hG, G_12_2 hG, G_12_3 hG, G_12_4 hG, G_12_5 hG, G_12_7 hG, G_12_8 hG, G_12_9 hG, G_12_12 hG, G_12_13 hG, G_12_14 hG, G_12_22 hG, G_12_23 hG, G_12_29 hG, G_12_30 hG, G_12_31 hG, G_12_37 hG, G_12_38 hG, G_12_39 hG, G_12_40 hG, G_12_41 hG, G_12_43 hG, G_12_46 hG, G_12_47 hG, G_12_48 hG, G_25 hG, G_26 hG, G_47 hG, G_58 hG, n32_add, n32_mul, n32_lt, n32_le, n32_eq, n32_clamp, n32_inT, n32_div, n32_rem, n32_m1, n32_m1', n32_m1lt, n32_ltm1, n32_10, n32_01, Nat.not_lt_zero, Nat.lt_irrefl, Nat.mul_zero, Nat.zero_mul, Nat.zero_add, Nat.add_zero, Nat.reduceEqDiff, Nat.one_ne_zero, Nat.zero_ne_one, ax_psh_none, ax_psh_some, true_and, and_true, and_false, false_and, not_true_eq_false, not_false_eq_true, true_imp_iff, false_imp_iff, imp_self, or_true, true_or, or_false, false_or, and_self, ite_true, ite_false, if_true, if_false]
      obtain ⟨z1, z2, z3⟩ := way_end hC fr1 hPI1 hSW1 fr2
      exact hQ _ gi2 g z1 z2 z3
  · simp (disch := omega) only [e_S_street, b_S_street_0, b_S_street_6, b_S_street_9, e_M_street, b_M_street_0, b_M_street_6, b_M_street_9, c_S_within, c_M_lies, hx, n32_add, n32_mul, n32_lt, n32_le, n32_eq, n32_clamp, n32_inT, n32_div, n32_rem, n32_m1, n32_m1', n32_m1lt, n32_ltm1, n32_10, n32_01, Nat.not_lt_zero, Nat.lt_irrefl, Nat.mul_zero, Nat.zero_mul, Nat.zero_add, Nat.add_zero, Nat.reduceEqDiff, Nat.one_ne_zero, Nat.zero_ne_one, ax_psh_none, ax_psh_some, true_and, and_true, and_false, false_and, not_true_eq_false, not_false_eq_true, true_imp_iff, false_imp_iff, imp_self, or_true, true_or, or_false, false_or, and_self, ite_true, ite_false, if_true, if_false]
    exact hQ _ gi g (Core_same hC).1 (fun _ _ _ _ => rfl) hSW
theorem op_best {D n v : Nat} {x : Int32} {gi : GI} {g : AG} {Ls : Nat → List PC} {Q : Option AV → Option AV → AH → Prop} (hD : 70 ≤ D) (hC : Core n gi g Ls) (h9 : gi 0 0 9 = n32 v) (hSW : SW gi v)
    (hQ : ∀ r gi' g', Core (n + 1) gi' g' Ls → (∀ s a j, s = 0 ∨ s = 64 ∨ s = 8 ∨ s = 9 ∨ (43 ≤ s ∧ s ≤ 47) ∨ s = 77 ∨ (s = 12 ∧ (j < 15 ∨ (32 ≤ j ∧ j ≤ 36))) → gi' s a j = gi s a j) → SW gi' v → Q (some (.inl r)) (some (.inl r)) (gi', g')) :
    ax_call D m_S_best [.inr (.inr (some (0, 0))), .inl x] (gi, g) (fun r h => ax_call D m_M_best [.inr (.inr (some (12, 0))), .inl x] h (fun r' h' => Q r r' h')) := by
  obtain ⟨d, rfl⟩ : ∃ d2, D = d2 + 50 := ⟨D - 50, by omega⟩
  obtain ⟨nt, m, s, hB, hG, b1, n6, hTh, hPI, hs2, hs, k796⟩ := ask_of hC
  have hpos := best_pos (K := gi 64 0) n6
  rcases win_cases2 x 0 1 (by omega) (by omega) with ⟨w, -, hw, rfl⟩ | hx
  · rw [e_S_best]
    simp (disch := omega) only [b_S_best_0, b_S_best_6, b_S_best_11, c_S_within, win_T, n32_add, n32_mul, n32_lt, n32_le, n32_eq, n32_clamp, n32_inT, n32_div, n32_rem, n32_m1, n32_m1', n32_m1lt, n32_ltm1, n32_10, n32_01, Nat.not_lt_zero, Nat.lt_irrefl, Nat.mul_zero, Nat.zero_mul, Nat.zero_add, Nat.add_zero, Nat.reduceEqDiff, Nat.one_ne_zero, Nat.zero_ne_one, ax_psh_none, ax_psh_some, true_and, and_true, and_false, false_and, not_true_eq_false, not_false_eq_true, true_imp_iff, false_imp_iff, imp_self, or_true, true_or, or_false, false_or, and_self, ite_true, ite_false, if_true, if_false]
    refine c_seekBest (d := d + 37) hB hPI h9 hSW (fun gi1 fr1 hPI1 hSW1 hv1 => ?_)
    have hB1 := BK_wb hB fr1
    have e64 : gi1 64 0 = gi 64 0 := funext (fun j => fr1 64 0 j rfl)
    have ew : w = 0 ∨ w = 1 := by omega
    rcases ew with rfl | rfl
    · simp (disch := omega) only [b_S_best_15, b_S_best_19, b_S_best_36, hv1.2.2.2.2.1, G_0_0 hG, G_0_1 hG, G_0_2 hG, G_0_3 hG, G_0_7 hG, G_0_10 hG, G_0_12 hG, G_0_13 hG, G_0_14 hG, G_0_15 hG, G_0_16 hG, G_0_17 hG, G_1_0 hG, G_1_2 hG, G_1_5 hG, G_2_4 hG, G_2_5 hG, G_3_5 hG, G_3_6 hG, G_3_7 hG, G_3_8 hG, G_3_9 hG, G_5_0 hG, G_5_1 hG, G_6_0 hG, G_6_1 hG, G_6_2 hG, G_6_9 hG, G_6_10 hG, G_6_11 hG, G_6_12 hG, G_6_13 hG, G_7_0 hG, G_7_5 hG, G_8_8 hG, G_8_9 hG, G_9_8 hG, G_9_9 hG, G_10_7 hG, G_10_8 hG, G_10_9 hG, G_10_10 hG, G_10_11 hG, G_11_0 hG, G_12_2 hG, G_12_3 hG, G_12_4 hG, G_12_5 hG, G_12_7 hG, G_12_8 hG, G_12_9 hG, G_12_12 hG, G_12_13 hG, G_12_14 hG, G_12_22 hG, G_12_23 hG, G_12_29 hG, G_12_30 hG, G_12_31 hG, G_12_37 hG, G_12_38 hG, G_12_39 hG, G_12_40 hG, G_12_41 hG, G_12_43 hG, G_12_46 hG, G_12_47 hG, G_12_48 hG, G_25 hG, G_26 hG, G_47 hG, G_58 hG, n32_add, n32_mul, n32_lt, n32_le, n32_eq, n32_clamp, n32_inT, n32_div, n32_rem, n32_m1, n32_m1', n32_m1lt, n32_ltm1, n32_10, n32_01, Nat.not_lt_zero, Nat.lt_irrefl, Nat.mul_zero, Nat.zero_mul, Nat.zero_add, Nat.add_zero, Nat.reduceEqDiff, Nat.one_ne_zero, Nat.zero_ne_one, ax_psh_none, ax_psh_some, true_and, and_true, and_false, false_and, not_true_eq_false, not_false_eq_true, true_imp_iff, false_imp_iff, imp_self, or_true, true_or, or_false, false_or, and_self, ite_true, ite_false, if_true, if_false]
      rw [e_M_best]
      simp (disch := omega) only [b_M_best_0, b_M_best_6, b_M_best_11, c_M_lies, win_T, n32_add, n32_mul, n32_lt, n32_le, n32_eq, n32_clamp, n32_inT, n32_div, n32_rem, n32_m1, n32_m1', n32_m1lt, n32_ltm1, n32_10, n32_01, Nat.not_lt_zero, Nat.lt_irrefl, Nat.mul_zero, Nat.zero_mul, Nat.zero_add, Nat.add_zero, Nat.reduceEqDiff, Nat.one_ne_zero, Nat.zero_ne_one, ax_psh_none, ax_psh_some, true_and, and_true, and_false, false_and, not_true_eq_false, not_false_eq_true, true_imp_iff, false_imp_iff, imp_self, or_true, true_or, or_false, false_or, and_self, ite_true, ite_false, if_true, if_false]
      refine c_M_bests (d := d + 43) hB1 (fun gi2 fr2 hv2 _ _ => ?_)
      rw [e64] at hv2
      have q44 := hv2.2.1 hpos
      simp (disch := omega) only [b_M_best_15, b_M_best_19, b_M_best_30, q44, G_0_0 hG, G_0_1 hG, G_0_2 hG, G_0_3 hG, G_0_7 hG, G_0_10 hG, G_0_12 hG, G_0_13 hG, G_0_14 hG, G_0_15 hG, G_0_16 hG, G_0_17 hG, G_1_0 hG, G_1_2 hG, G_1_5 hG, G_2_4 hG, G_2_5 hG, G_3_5 hG, G_3_6 hG, G_3_7 hG, G_3_8 hG, G_3_9 hG, G_5_0 hG, G_5_1 hG, G_6_0 hG, G_6_1 hG, G_6_2 hG, G_6_9 hG, G_6_10 hG, G_6_11 hG, G_6_12 hG, G_6_13 hG, G_7_0 hG, G_7_5 hG, G_8_8 hG, G_8_9 hG, G_9_8 hG, G_9_9 hG, G_10_7 hG, G_10_8 hG, G_10_9 hG, G_10_10 hG, G_10_11 hG, G_11_0 hG, G_12_2 hG, G_12_3 hG, G_12_4 hG, G_12_5 hG, G_12_7 hG, G_12_8 hG, G_12_9 hG, G_12_12 hG, G_12_13 hG, G_12_14 hG, G_12_22 hG, G_12_23 hG, G_12_29 hG, G_12_30 hG, G_12_31 hG, G_12_37 hG, G_12_38 hG, G_12_39 hG, G_12_40 hG, G_12_41 hG, G_12_43 hG, G_12_46 hG, G_12_47 hG, G_12_48 hG, G_25 hG, G_26 hG, G_47 hG, G_58 hG, n32_add, n32_mul, n32_lt, n32_le, n32_eq, n32_clamp, n32_inT, n32_div, n32_rem, n32_m1, n32_m1', n32_m1lt, n32_ltm1, n32_10, n32_01, Nat.not_lt_zero, Nat.lt_irrefl, Nat.mul_zero, Nat.zero_mul, Nat.zero_add, Nat.add_zero, Nat.reduceEqDiff, Nat.one_ne_zero, Nat.zero_ne_one, ax_psh_none, ax_psh_some, true_and, and_true, and_false, false_and, not_true_eq_false, not_false_eq_true, true_imp_iff, false_imp_iff, imp_self, or_true, true_or, or_false, false_or, and_self, ite_true, ite_false, if_true, if_false]
      obtain ⟨z1, z2, z3⟩ := way_end hC fr1 hPI1 hSW1 fr2
      exact hQ _ gi2 g z1 z2 z3
    · simp (disch := omega) only [b_S_best_15, b_S_best_29, b_S_best_36, hv1.2.2.2.1, G_0_0 hG, G_0_1 hG, G_0_2 hG, G_0_3 hG, G_0_7 hG, G_0_10 hG, G_0_12 hG, G_0_13 hG, G_0_14 hG, G_0_15 hG, G_0_16 hG, G_0_17 hG, G_1_0 hG, G_1_2 hG, G_1_5 hG, G_2_4 hG, G_2_5 hG, G_3_5 hG, G_3_6 hG, G_3_7 hG, G_3_8 hG, G_3_9 hG, G_5_0 hG, G_5_1 hG, G_6_0 hG, G_6_1 hG, G_6_2 hG, G_6_9 hG, G_6_10 hG, G_6_11 hG, G_6_12 hG, G_6_13 hG, G_7_0 hG, G_7_5 hG, G_8_8 hG, G_8_9 hG, G_9_8 hG, G_9_9 hG, G_10_7 hG, G_10_8 hG, G_10_9 hG, G_10_10 hG, G_10_11 hG, G_11_0 hG, G_12_2 hG, G_12_3 hG, G_12_4 hG, G_12_5 hG, G_12_7 hG, G_12_8 hG, G_12_9 hG, G_12_12 hG, G_12_13 hG, G_12_14 hG, G_12_22 hG, G_12_23 hG, G_12_29 hG, G_12_30 hG, G_12_31 hG, G_12_37 hG, G_12_38 hG, G_12_39 hG, G_12_40 hG, G_12_41 hG, G_12_43 hG, G_12_46 hG, G_12_47 hG, G_12_48 hG, G_25 hG, G_26 hG, G_47 hG, G_58 hG, n32_add, n32_mul, n32_lt, n32_le, n32_eq, n32_clamp, n32_inT, n32_div, n32_rem, n32_m1, n32_m1', n32_m1lt, n32_ltm1, n32_10, n32_01, Nat.not_lt_zero, Nat.lt_irrefl, Nat.mul_zero, Nat.zero_mul, Nat.zero_add, Nat.add_zero, Nat.reduceEqDiff, Nat.one_ne_zero, Nat.zero_ne_one, ax_psh_none, ax_psh_some, true_and, and_true, and_false, false_and, not_true_eq_false, not_false_eq_true, true_imp_iff, false_imp_iff, imp_self, or_true, true_or, or_false, false_or, and_self, ite_true, ite_false, if_true, if_false]
      rw [e_M_best]
      simp (disch := omega) only [b_M_best_0, b_M_best_6, b_M_best_11, c_M_lies, win_T, n32_add, n32_mul, n32_lt, n32_le, n32_eq, n32_clamp, n32_inT, n32_div, n32_rem, n32_m1, n32_m1', n32_m1lt, n32_ltm1, n32_10, n32_01, Nat.not_lt_zero, Nat.lt_irrefl, Nat.mul_zero, Nat.zero_mul, Nat.zero_add, Nat.add_zero, Nat.reduceEqDiff, Nat.one_ne_zero, Nat.zero_ne_one, ax_psh_none, ax_psh_some, true_and, and_true, and_false, false_and, not_true_eq_false, not_false_eq_true, true_imp_iff, false_imp_iff, imp_self, or_true, true_or, or_false, false_or, and_self, ite_true, ite_false, if_true, if_false]
      refine c_M_bests (d := d + 43) hB1 (fun gi2 fr2 hv2 _ _ => ?_)
      rw [e64] at hv2
      simp (disch := omega) only [b_M_best_15, b_M_best_26, b_M_best_30, hv2.1, G_0_0 hG, G_0_1 hG, G_0_2 hG, G_0_3 hG, G_0_7 hG, G_0_10 hG, G_0_12 hG, G_0_13 hG, G_0_14 hG, G_0_15 hG, G_0_16 hG, G_0_17 hG, G_1_0 hG, G_1_2 hG, G_1_5 hG, G_2_4 hG, G_2_5 hG, G_3_5 hG, G_3_6 hG, G_3_7 hG, G_3_8 hG, G_3_9 hG, G_5_0 hG, G_5_1 hG, G_6_0 hG, G_6_1 hG, G_6_2 hG, G_6_9 hG, G_6_10 hG, G_6_11 hG, G_6_12 hG, G_6_13 hG, G_7_0 hG, G_7_5 hG, G_8_8 hG, G_8_9 hG, G_9_8 hG, G_9_9 hG, G_10_7 hG, G_10_8 hG, G_10_9 hG, G_10_10 hG, G_10_11 hG, G_11_0 hG, G_12_2 hG, G_12_3 hG, G_12_4 hG, G_12_5 hG, G_12_7 hG, G_12_8 hG, G_12_9 hG, G_12_12 hG, G_12_13 hG, G_12_14 hG, G_12_22 hG, G_12_23 hG, G_12_29 hG, G_12_30 hG, G_12_31 hG, G_12_37 hG, G_12_38 hG, G_12_39 hG, G_12_40 hG, G_12_41 hG, G_12_43 hG, G_12_46 hG, G_12_47 hG, G_12_48 hG, G_25 hG, G_26 hG, G_47 hG, G_58 hG, n32_add, n32_mul, n32_lt, n32_le, n32_eq, n32_clamp, n32_inT, n32_div, n32_rem, n32_m1, n32_m1', n32_m1lt, n32_ltm1, n32_10, n32_01, Nat.not_lt_zero, Nat.lt_irrefl, Nat.mul_zero, Nat.zero_mul, Nat.zero_add, Nat.add_zero, Nat.reduceEqDiff, Nat.one_ne_zero, Nat.zero_ne_one, ax_psh_none, ax_psh_some, true_and, and_true, and_false, false_and, not_true_eq_false, not_false_eq_true, true_imp_iff, false_imp_iff, imp_self, or_true, true_or, or_false, false_or, and_self, ite_true, ite_false, if_true, if_false]
      obtain ⟨z1, z2, z3⟩ := way_end hC fr1 hPI1 hSW1 fr2
      exact hQ _ gi2 g z1 z2 z3
  · simp (disch := omega) only [e_S_best, b_S_best_0, b_S_best_6, b_S_best_9, e_M_best, b_M_best_0, b_M_best_6, b_M_best_9, c_S_within, c_M_lies, hx, n32_add, n32_mul, n32_lt, n32_le, n32_eq, n32_clamp, n32_inT, n32_div, n32_rem, n32_m1, n32_m1', n32_m1lt, n32_ltm1, n32_10, n32_01, Nat.not_lt_zero, Nat.lt_irrefl, Nat.mul_zero, Nat.zero_mul, Nat.zero_add, Nat.add_zero, Nat.reduceEqDiff, Nat.one_ne_zero, Nat.zero_ne_one, ax_psh_none, ax_psh_some, true_and, and_true, and_false, false_and, not_true_eq_false, not_false_eq_true, true_imp_iff, false_imp_iff, imp_self, or_true, true_or, or_false, false_or, and_self, ite_true, ite_false, if_true, if_false]
    exact hQ _ gi g (Core_same hC).1 (fun _ _ _ _ => rfl) hSW
theorem atP_no {pl : List Nat} {r : FF} {x : Int32} (h : ∀ i, i < pl.length → ¬ n32 (pl.getD i 0) = x) : ∀ k, k ≤ pl.length → atP pl r x k = -1
  | 0, _ => rfl
  | k + 1, hk => by
    unfold atP
    rw [if_neg (h _ (by omega))]
    exact atP_no h k (by omega)
theorem op_bestAt {D n v : Nat} {x : Int32} {gi : GI} {g : AG} {Ls : Nat → List PC} {Q : Option AV → Option AV → AH → Prop} (hD : 70 ≤ D) (hC : Core n gi g Ls) (h9 : gi 0 0 9 = n32 v) (hSW : SW gi v)
    (hQ : ∀ r gi' g', Core (n + 1) gi' g' Ls → (∀ s a j, s = 0 ∨ s = 64 ∨ s = 8 ∨ s = 9 ∨ (43 ≤ s ∧ s ≤ 47) ∨ s = 77 ∨ (s = 12 ∧ (j < 15 ∨ (32 ≤ j ∧ j ≤ 36))) → gi' s a j = gi s a j) → SW gi' v → Q (some (.inl r)) (some (.inl r)) (gi', g')) :
    ax_call D m_S_bestAt [.inr (.inr (some (0, 0))), .inl x] (gi, g) (fun r h => ax_call D m_M_bestAt [.inr (.inr (some (12, 0))), .inl x] h (fun r' h' => Q r r' h')) := by
  obtain ⟨d, rfl⟩ : ∃ d2, D = d2 + 50 := ⟨D - 50, by omega⟩
  obtain ⟨nt, m, s, hB, hG, b1, n6, hTh, hPI, hs2, hs, k796⟩ := ask_of hC
  have hpos := best_pos (K := gi 64 0) n6
  have hn := nK_le (K := gi 64 0) n6
  have hpl : (plK (gi 64 0) nt 10).length = nK (gi 64 0) nt := pt_len (gi 64 0) nt 10
  rw [e_S_bestAt, b_S_bestAt_0]
  refine c_seekBest (d := d + 37) hB hPI h9 hSW (fun gi1 fr1 hPI1 hSW1 hv1 => ?_)
  have hB1 := BK_wb hB fr1
  have e64 : gi1 64 0 = gi 64 0 := funext (fun j => fr1 64 0 j rfl)
  rw [ax_psh_none, b_S_bestAt_4]
  refine ⟨G_0_17 hG 0, ?_⟩
  rw [c_bestIn (d := d + 48) hG n6 hv1 hpos x]
  simp only [ax_psh_some]
  rw [b_S_bestAt_12, e_M_bestAt]
  rcases win_cases2 x 0 9 (by omega) (by omega) with ⟨w, -, hw, rfl⟩ | hx
  · simp (disch := omega) only [b_M_bestAt_0, b_M_bestAt_7, b_M_bestAt_12, c_M_lies, win_T, n32_add, n32_mul, n32_lt, n32_le, n32_eq, n32_clamp, n32_inT, n32_div, n32_rem, n32_m1, n32_m1', n32_m1lt, n32_ltm1, n32_10, n32_01, Nat.not_lt_zero, Nat.lt_irrefl, Nat.mul_zero, Nat.zero_mul, Nat.zero_add, Nat.add_zero, Nat.reduceEqDiff, Nat.one_ne_zero, Nat.zero_ne_one, ax_psh_none, ax_psh_some, true_and, and_true, and_false, false_and, not_true_eq_false, not_false_eq_true, true_imp_iff, false_imp_iff, imp_self, or_true, true_or, or_false, false_or, and_self, ite_true, ite_false, if_true, if_false]
    refine c_M_bests (d := d + 43) hB1 (fun gi2 fr2 hv2 q42 q80 => ?_)
    rw [e64] at hv2 q42 q80
    obtain ⟨z1, z2, z3⟩ := way_end hC fr1 hPI1 hSW1 fr2
    have key : ∀ k i, i + k = nK (gi 64 0) nt → Runs (d + 49) (m_M_bestAt, 18, [some (.inr (.inr (some (12, 0)))), some (.inl (n32 w)), some (.inl (n32 i))], []) (gi2, g) (fun r' h' => Q (some (.inl (atP (plK (gi 64 0) nt 10) (gt (bestK (gi 64 0) nt).2.2) (n32 w) k))) r' h') := by
      intro k
      induction k with
      | zero =>
        intro i hi
        have hnl : ¬ i < nK (gi 64 0) nt := by omega
        rw [b_M_bestAt_18]
        simp (disch := omega) only [b_M_bestAt_49, q42, hnl, n32_add, n32_mul, n32_lt, n32_le, n32_eq, n32_clamp, n32_inT, n32_div, n32_rem, n32_m1, n32_m1', n32_m1lt, n32_ltm1, n32_10, n32_01, Nat.not_lt_zero, Nat.lt_irrefl, Nat.mul_zero, Nat.zero_mul, Nat.zero_add, Nat.add_zero, Nat.reduceEqDiff, Nat.one_ne_zero, Nat.zero_ne_one, ax_psh_none, ax_psh_some, true_and, and_true, and_false, false_and, not_true_eq_false, not_false_eq_true, true_imp_iff, false_imp_iff, imp_self, or_true, true_or, or_false, false_or, and_self, ite_true, ite_false, if_true, if_false]
        exact hQ _ gi2 g z1 z2 z3
      | succ k ih =>
        intro i hi
        have e80 := q80 i (by omega)
        have e83 := hv2.2.2 hpos i (by omega)
        have hlt : i < nK (gi 64 0) nt := by omega
        have ei : (plK (gi 64 0) nt 10).length - (k + 1) = i := by omega
        have ea : atP (plK (gi 64 0) nt 10) (gt (bestK (gi 64 0) nt).2.2) (n32 w) (k + 1) = if n32 ((plK (gi 64 0) nt 10).getD i 0) = n32 w then n32 (gt (bestK (gi 64 0) nt).2.2 i) else atP (plK (gi 64 0) nt 10) (gt (bestK (gi 64 0) nt).2.2) (n32 w) k := by
          conv => lhs; unfold atP
          rw [ei]
        rw [ea, b_M_bestAt_18, q42]
        refine ⟨fun _ => ?_, fun z => absurd (by rw [n32_lt (by omega) (by omega)]; exact hlt) z⟩
        rw [b_M_bestAt_26, n32_clamp (by omega), e80]
        refine ⟨G_12_39 hG 0, n32_in (by omega) (by omega), fun z => ?_, fun z => ?_⟩
        · rw [if_pos z, b_M_bestAt_36, n32_clamp (by omega), e83]
          exact ⟨G_12_43 hG 0, n32_in (by omega) (by omega), hQ _ gi2 g z1 z2 z3⟩
        · rw [if_neg z, b_M_bestAt_43, n32_add]
          exact ih (i + 1) (by omega)
    rw [ax_psh_none, b_M_bestAt_16]
    exact key (nK (gi 64 0) nt) 0 (Nat.zero_add _)
  · have ea : atP (plK (gi 64 0) nt 10) (gt (bestK (gi 64 0) nt).2.2) x (nK (gi 64 0) nt) = -1 := atP_no (fun i hi e => by
      have h10 := plK_lt hi
      rw [← e, win_yes (Nat.zero_le _) (by omega) (by omega)] at hx
      exact absurd hx (by decide)) _ (by omega)
    obtain ⟨z1, z2, z3⟩ := way_end hC fr1 hPI1 hSW1 (Fr_refl msMod gi1)
    rw [ea]
    simp (disch := omega) only [b_M_bestAt_0, b_M_bestAt_7, b_M_bestAt_10, c_M_lies, hx, n32_add, n32_mul, n32_lt, n32_le, n32_eq, n32_clamp, n32_inT, n32_div, n32_rem, n32_m1, n32_m1', n32_m1lt, n32_ltm1, n32_10, n32_01, Nat.not_lt_zero, Nat.lt_irrefl, Nat.mul_zero, Nat.zero_mul, Nat.zero_add, Nat.add_zero, Nat.reduceEqDiff, Nat.one_ne_zero, Nat.zero_ne_one, ax_psh_none, ax_psh_some, true_and, and_true, and_false, false_and, not_true_eq_false, not_false_eq_true, true_imp_iff, false_imp_iff, imp_self, or_true, true_or, or_false, false_or, and_self, ite_true, ite_false, if_true, if_false]
    exact hQ _ gi1 g z1 z2 z3
