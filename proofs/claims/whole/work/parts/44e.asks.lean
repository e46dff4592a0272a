theorem PI_of_lay {gi gi' : GI} {nt : Nat} (h : ∀ t, t < 6 → PaperInv gi' t) (_ : OnlyPs nt gi gi') : ∀ t, t < 6 → PaperInv gi' t := h
theorem lawAt_b {d m nt : Nat} {gi : GI} {g : AG} {Q : Option AV → AH → Prop} {Ls : Nat → List PC} {x : Int32} {K : Nat → Int32} (hB : BK gi g Ls nt m K) (hx : x = -1 ∨ ∃ f, f < m ∧ x = n32 f)
    (hq : ∀ lw, LawRef gi g lw (lawL Ls x) → Q (some (.inr (.inr lw))) (gi, g)) : ax_call (d + 3) m_Books_lawAt [.inr (.inr (some (1, 0))), .inl x] (gi, g) Q := by
  obtain ⟨rfl, hG, ⟨n6, m6, k796, k797, b1, b3, b4, hfo, hte, hte2⟩, hTh, hLw⟩ := hB
  exact c_lawAt hG b3 m6 hLw hx hq
/-- for a law that is none or one -/
theorem lw_cases {gi : GI} {g : AG} {lw : AR} {L : Option (List PC)} (h : LawRef gi g lw L) : lw = none ∨ ∃ q, lw = some (4, q) := by
  rcases h with ⟨h, -⟩ | ⟨q, l, h, -⟩
  · exact Or.inl h
  · exact Or.inr ⟨q, h⟩
theorem win_of1 {m1 : Int32} (nt : Nat) (h : nt ≤ 6) (e : m1 = -1) : win m1 (n32 0) (n32 nt - n32 1) = n32 0 := by
  subst e
  exact win_m1 h
theorem op_owes (x : Int32) : Op m_S_owes m_M_owes [.inl x] := by
  intro D n gi g Ls Q hD hn hC hQ
  obtain ⟨d, rfl⟩ : ∃ d2, D = d2 + 60 := ⟨D - 60, by omega⟩
  obtain ⟨nt, m, s, hB, hG, b1, n6, hTh, hPI, hs2, hs, k796⟩ := ask_of hC
  have c1 : (n32 1).toNatClampNeg = 1 := by decide
  by_cases hx : x = -1
  · subst hx
    rw [e_S_owes, b_S_owes_0]
    refine ⟨fun _ => ?_, fun z => absurd rfl z⟩
    rw [b_S_owes_5]
    refine c_layOut (d := d + 54) hG b1 n6 hTh hPI ?_
    intro gi1 ho hp hpi
    have hq1 := qMod_Ps ho
    have hB1 := BK_q hB hq1 (GF_refl hG)
    have hs1 := St_q hs ho
    obtain ⟨-, ⟨a3, a4⟩, -, -⟩ := terms_k hB1.2.2.1.2.2.2.2.2.2.2.2.1
    have t1 : gi1 28 0 1 = n32 (dyk (gi 64 0)) := (hB1.2.2.1.2.2.2.2.2.2.2.2.2 1 (by omega)).trans a3
    have e14 : gi1 1 0 4 = gi 64 0 798 := hB1.2.2.1.2.2.2.2.2.2.1
    simp (disch := omega) only [b_S_owes_9, G_0_0 hG, G_0_1 hG, G_0_2 hG, G_0_3 hG, G_0_7 hG, G_0_10 hG, G_0_12 hG, G_0_13 hG, G_0_14 hG, G_0_15 hG, G_0_16 hG, G_0_17 hG, G_1_0 hG, G_1_2 hG, G_1_5 hG, G_2_4 hG, G_2_5 hG, G_3_5 hG, G_3_6 hG, G_3_7 hG, G_3_8 hG, G_3_9 hG, G_5_0 hG, G_5_1 hG, G_6_0 hG, G_6_1 hG, G_6_2 hG, G_6_9 hG, G_6_10 hG, G_6_11 hG, G_6_12 hG, G_6_13 hG, G_7_0 hG, G_7_5 hG, G_8_8 hG, G_8_9 hG, G_9_8 hG, G_9_9 hG, G_10_7 hG, G_10_8 hG, G_10_9 hG, G_10_10 hG, G_10_11 hG, G_11_0 hG, G_12_2 hG, G_12_3 hG, G_12_4 hG, G_12_5 hG, G_12_7 hG, G_12_8 hG, G_12_9 hG, G_12_12 hG, G_12_13 hG, G_12_14 hG, G_12_22 hG, G_12_23 hG, G_12_29 hG, G_12_30 hG, G_12_31 hG, G_12_37 hG, G_12_38 hG, G_12_39 hG, G_12_40 hG, G_12_41 hG, G_12_43 hG, G_12_46 hG, G_12_47 hG, G_12_48 hG, G_25 hG, G_26 hG, G_47 hG, G_58 hG, e14, ax_psh_none, ax_psh_some, true_and, and_true, and_false, false_and, not_true_eq_false, not_false_eq_true, true_imp_iff, false_imp_iff, imp_self, or_true, true_or, or_false, false_or, and_self, ite_true, ite_false, if_true, if_false]
    refine lawAt_b (d := d + 56) hB1 hB1.2.2.1.2.2.2.2.2.2.2.1 ?_
    intro lw hlw
    have fin : ax_call (d + 59) m_S_owedByAll [.inr (.inr (some (0, 0))), .inr (.inr lw), .inl (n32 (dyk (gi 64 0)))] (gi1, g) (fun r h' => Runs (d + 59) (m_S_owes, 36, [some (.inr (.inr (some (0, 0)))), some (.inl (-1)), none], ax_psh r []) h' (fun r h => ax_call (d + 60) m_M_owes [.inr (.inr (some (12, 0))), .inl (-1)] h (fun r' h' => Q r r' h'))) := by
      refine c_owedByAll (d := d + 53) (bb := bk (gi 64 0)) hB1 (fun t ht => hp t ht) hlw (by omega) hs1 (by omega) ?_
      intro gi2 g2 fr2 gf2 hs3
      simp only [b_S_owes_36, ax_psh_none, ax_psh_some, true_and, and_true, and_false, false_and, not_true_eq_false, not_false_eq_true, true_imp_iff, false_imp_iff, imp_self, or_true, true_or, or_false, false_or, and_self, ite_true, ite_false, if_true, if_false]
      have hq2 := Fr_trans hq1 (q_co fr2)
      refine c_M_owes_all (D := d + 60) (by omega) (BK_q hB hq2 gf2) ?_
      intro gi3 fr3
      exact q_end hC hQ (Fr_trans hq2 (qMod_ow fr3)) gf2 (PI_ow (PI_co hpi fr2) fr3) (St_ow hs3 fr3) (by omega) _
    rcases lw_cases hlw with rfl | ⟨q, rfl⟩
    · simp (disch := omega) only [b_S_owes_24a, G_0_0 hG, G_0_1 hG, G_0_2 hG, G_0_3 hG, G_0_7 hG, G_0_10 hG, G_0_12 hG, G_0_13 hG, G_0_14 hG, G_0_15 hG, G_0_16 hG, G_0_17 hG, G_1_0 hG, G_1_2 hG, G_1_5 hG, G_2_4 hG, G_2_5 hG, G_3_5 hG, G_3_6 hG, G_3_7 hG, G_3_8 hG, G_3_9 hG, G_5_0 hG, G_5_1 hG, G_6_0 hG, G_6_1 hG, G_6_2 hG, G_6_9 hG, G_6_10 hG, G_6_11 hG, G_6_12 hG, G_6_13 hG, G_7_0 hG, G_7_5 hG, G_8_8 hG, G_8_9 hG, G_9_8 hG, G_9_9 hG, G_10_7 hG, G_10_8 hG, G_10_9 hG, G_10_10 hG, G_10_11 hG, G_11_0 hG, G_12_2 hG, G_12_3 hG, G_12_4 hG, G_12_5 hG, G_12_7 hG, G_12_8 hG, G_12_9 hG, G_12_12 hG, G_12_13 hG, G_12_14 hG, G_12_22 hG, G_12_23 hG, G_12_29 hG, G_12_30 hG, G_12_31 hG, G_12_37 hG, G_12_38 hG, G_12_39 hG, G_12_40 hG, G_12_41 hG, G_12_43 hG, G_12_46 hG, G_12_47 hG, G_12_48 hG, G_25 hG, G_26 hG, G_47 hG, G_58 hG, c1, t1, n32_add, n32_mul, n32_lt, n32_le, n32_eq, n32_clamp, n32_inT, n32_div, n32_rem, n32_m1, n32_m1', n32_m1lt, n32_ltm1, n32_10, n32_01, Nat.not_lt_zero, Nat.lt_irrefl, Nat.mul_zero, Nat.zero_mul, Nat.zero_add, Nat.add_zero, Nat.reduceEqDiff, Nat.one_ne_zero, Nat.zero_ne_one, ax_psh_none, ax_psh_some, true_and, and_true, and_false, false_and, not_true_eq_false, not_false_eq_true, true_imp_iff, false_imp_iff, imp_self, or_true, true_or, or_false, false_or, and_self, ite_true, ite_false, if_true, if_false]
      exact fin
    · simp (disch := omega) only [b_S_owes_24b, G_0_0 hG, G_0_1 hG, G_0_2 hG, G_0_3 hG, G_0_7 hG, G_0_10 hG, G_0_12 hG, G_0_13 hG, G_0_14 hG, G_0_15 hG, G_0_16 hG, G_0_17 hG, G_1_0 hG, G_1_2 hG, G_1_5 hG, G_2_4 hG, G_2_5 hG, G_3_5 hG, G_3_6 hG, G_3_7 hG, G_3_8 hG, G_3_9 hG, G_5_0 hG, G_5_1 hG, G_6_0 hG, G_6_1 hG, G_6_2 hG, G_6_9 hG, G_6_10 hG, G_6_11 hG, G_6_12 hG, G_6_13 hG, G_7_0 hG, G_7_5 hG, G_8_8 hG, G_8_9 hG, G_9_8 hG, G_9_9 hG, G_10_7 hG, G_10_8 hG, G_10_9 hG, G_10_10 hG, G_10_11 hG, G_11_0 hG, G_12_2 hG, G_12_3 hG, G_12_4 hG, G_12_5 hG, G_12_7 hG, G_12_8 hG, G_12_9 hG, G_12_12 hG, G_12_13 hG, G_12_14 hG, G_12_22 hG, G_12_23 hG, G_12_29 hG, G_12_30 hG, G_12_31 hG, G_12_37 hG, G_12_38 hG, G_12_39 hG, G_12_40 hG, G_12_41 hG, G_12_43 hG, G_12_46 hG, G_12_47 hG, G_12_48 hG, G_25 hG, G_26 hG, G_47 hG, G_58 hG, c1, t1, n32_add, n32_mul, n32_lt, n32_le, n32_eq, n32_clamp, n32_inT, n32_div, n32_rem, n32_m1, n32_m1', n32_m1lt, n32_ltm1, n32_10, n32_01, Nat.not_lt_zero, Nat.lt_irrefl, Nat.mul_zero, Nat.zero_mul, Nat.zero_add, Nat.add_zero, Nat.reduceEqDiff, Nat.one_ne_zero, Nat.zero_ne_one, ax_psh_none, ax_psh_some, true_and, and_true, and_false, false_and, not_true_eq_false, not_false_eq_true, true_imp_iff, false_imp_iff, imp_self, or_true, true_or, or_false, false_or, and_self, ite_true, ite_false, if_true, if_false]
      exact fin
  · rw [e_S_owes, b_S_owes_0]
    refine ⟨fun z => absurd z hx, fun _ => ?_⟩
    rw [b_S_owes_37]
    rcases win_cases x nt (by omega) with ⟨t, ht, rfl⟩ | hw
    · refine c_paperOf (d := d + 54) hG b1 n6 hTh hPI ht ?_
      intro gi1 ho hp
      have hq1 := qMod_P ho
      have hB1 := BK_q hB hq1 (GF_refl hG)
      simp (disch := omega) only [b_S_owes_42b, b_S_owes_49, ax_psh_none, ax_psh_some, true_and, and_true, and_false, false_and, not_true_eq_false, not_false_eq_true, true_imp_iff, false_imp_iff, imp_self, or_true, true_or, or_false, false_or, and_self, ite_true, ite_false, if_true, if_false]
      refine c_handOver (d := d + 55) hB1 ht hp (St_P hs ho) (by omega) ?_
      intro gi2 g2 lw fr2 gf2 hc2
      have hG := gf2.2.1
      simp (disch := omega) only [b_S_owes_54, G_0_0 hG, G_0_1 hG, G_0_2 hG, G_0_3 hG, G_0_7 hG, G_0_10 hG, G_0_12 hG, G_0_13 hG, G_0_14 hG, G_0_15 hG, G_0_16 hG, G_0_17 hG, G_1_0 hG, G_1_2 hG, G_1_5 hG, G_2_4 hG, G_2_5 hG, G_3_5 hG, G_3_6 hG, G_3_7 hG, G_3_8 hG, G_3_9 hG, G_5_0 hG, G_5_1 hG, G_6_0 hG, G_6_1 hG, G_6_2 hG, G_6_9 hG, G_6_10 hG, G_6_11 hG, G_6_12 hG, G_6_13 hG, G_7_0 hG, G_7_5 hG, G_8_8 hG, G_8_9 hG, G_9_8 hG, G_9_9 hG, G_10_7 hG, G_10_8 hG, G_10_9 hG, G_10_10 hG, G_10_11 hG, G_11_0 hG, G_12_2 hG, G_12_3 hG, G_12_4 hG, G_12_5 hG, G_12_7 hG, G_12_8 hG, G_12_9 hG, G_12_12 hG, G_12_13 hG, G_12_14 hG, G_12_22 hG, G_12_23 hG, G_12_29 hG, G_12_30 hG, G_12_31 hG, G_12_37 hG, G_12_38 hG, G_12_39 hG, G_12_40 hG, G_12_41 hG, G_12_43 hG, G_12_46 hG, G_12_47 hG, G_12_48 hG, G_25 hG, G_26 hG, G_47 hG, G_58 hG, ax_psh_none, ax_psh_some, true_and, and_true, and_false, false_and, not_true_eq_false, not_false_eq_true, true_imp_iff, false_imp_iff, imp_self, or_true, true_or, or_false, false_or, and_self, ite_true, ite_false, if_true, if_false]
      refine c_owed (d := d + 54) hG hc2 (Pap_co hp fr2) ?_
      intro gi3 fr3 hc3
      have hq3 := Fr_trans (Fr_trans hq1 (q_co fr2)) (qMod_clk fr3)
      have hB3 := BK_q hB hq3 gf2
      have k3 : gi3 64 0 796 = n32 nt := e796_q (gi' := gi) (g' := g) hB3
      simp only [b_S_owes_61, ax_psh_none, ax_psh_some, true_and, and_true, and_false, false_and, not_true_eq_false, not_false_eq_true, true_imp_iff, false_imp_iff, imp_self, or_true, true_or, or_false, false_or, and_self, ite_true, ite_false, if_true, if_false]
      rw [e_M_owes, b_M_owes_0]
      refine ⟨fun z => absurd z hx, fun _ => ?_⟩
      simp (disch := omega) only [b_M_owes_5, b_M_owes_10, b_M_owes_13, c_M_isThing _ _ _ _ hG, k3, win_sT ht (by omega), n32_add, n32_mul, n32_lt, n32_le, n32_eq, n32_clamp, n32_inT, n32_div, n32_rem, n32_m1, n32_m1', n32_m1lt, n32_ltm1, n32_10, n32_01, Nat.not_lt_zero, Nat.lt_irrefl, Nat.mul_zero, Nat.zero_mul, Nat.zero_add, Nat.add_zero, Nat.reduceEqDiff, Nat.one_ne_zero, Nat.zero_ne_one, ax_psh_none, ax_psh_some, true_and, and_true, and_false, false_and, not_true_eq_false, not_false_eq_true, true_imp_iff, false_imp_iff, imp_self, or_true, true_or, or_false, false_or, and_self, ite_true, ite_false, if_true, if_false]
      refine c_M_owesOf_b (D := d + 59) (by omega) hB3 ht ?_
      intro gi4 fr4
      simp only [b_M_owes_18, b_M_owes_22, ax_psh_none, ax_psh_some, true_and, and_true, and_false, false_and, not_true_eq_false, not_false_eq_true, true_imp_iff, false_imp_iff, imp_self, or_true, true_or, or_false, false_or, and_self, ite_true, ite_false, if_true, if_false]
      exact q_end hC hQ (Fr_trans hq3 (qMod_ow fr4)) gf2 (PI_ow (PI_co (PI_P hPI ho (Pap_inv hp)) (Fr_trans fr2 (co_clk fr3))) fr4) (St_ow hc3.2.2.2.1 fr4) (by omega) _
    · rw [c_paperOf_n (d + 54) _ _ _ hG b1 hw]
      simp (disch := omega) only [b_S_owes_42a, b_S_owes_47, ax_psh_none, ax_psh_some, true_and, and_true, and_false, false_and, not_true_eq_false, not_false_eq_true, true_imp_iff, false_imp_iff, imp_self, or_true, true_or, or_false, false_or, and_self, ite_true, ite_false, if_true, if_false]
      rw [e_M_owes, b_M_owes_0]
      refine ⟨fun z => absurd z hx, fun _ => ?_⟩
      simp (disch := omega) only [b_M_owes_5, b_M_owes_10, b_M_owes_21, b_M_owes_22, c_M_isThing _ _ _ _ hG, k796, hw, n32_add, n32_mul, n32_lt, n32_le, n32_eq, n32_clamp, n32_inT, n32_div, n32_rem, n32_m1, n32_m1', n32_m1lt, n32_ltm1, n32_10, n32_01, Nat.not_lt_zero, Nat.lt_irrefl, Nat.mul_zero, Nat.zero_mul, Nat.zero_add, Nat.add_zero, Nat.reduceEqDiff, Nat.one_ne_zero, Nat.zero_ne_one, ax_psh_none, ax_psh_some, true_and, and_true, and_false, false_and, not_true_eq_false, not_false_eq_true, true_imp_iff, false_imp_iff, imp_self, or_true, true_or, or_false, false_or, and_self, ite_true, ite_false, if_true, if_false]
      exact op_end (D := d) (Core_same hC) hQ _
theorem op_owner (x : Int32) : Op m_S_owner m_M_owner [.inl x] := by
  intro D n gi g Ls Q hD hn hC hQ
  obtain ⟨d, rfl⟩ : ∃ d2, D = d2 + 60 := ⟨D - 60, by omega⟩
  obtain ⟨nt, m, s, hB, hG, b1, n6, hTh, hPI, hs2, hs, k796⟩ := ask_of hC
  rcases win_cases2 x 0 5 (by omega) (by omega) with ⟨o, -, ho6, rfl⟩ | hw
  · rw [e_S_owner, b_S_owner_0]
    simp (disch := omega) only [b_S_owner_6, b_S_owner_11, c_S_within, win_T (Nat.zero_le o) ho6, n32_add, n32_mul, n32_lt, n32_le, n32_eq, n32_clamp, n32_inT, n32_div, n32_rem, n32_m1, n32_m1', n32_m1lt, n32_ltm1, n32_10, n32_01, Nat.not_lt_zero, Nat.lt_irrefl, Nat.mul_zero, Nat.zero_mul, Nat.zero_add, Nat.add_zero, Nat.reduceEqDiff, Nat.one_ne_zero, Nat.zero_ne_one, ax_psh_none, ax_psh_some, true_and, and_true, and_false, false_and, not_true_eq_false, not_false_eq_true, true_imp_iff, false_imp_iff, imp_self, or_true, true_or, or_false, false_or, and_self, ite_true, ite_false, if_true, if_false]
    refine c_layOut (d := d + 54) hG b1 n6 hTh hPI ?_
    intro gi1 ho hp hpi
    have hq1 := qMod_Ps ho
    have hs1 := St_q hs ho
    have key := loop_up (n := nt) (P := fun i => ∀ gi2 g2, Fr coMod gi1 gi2 → GF g g2 → (∃ s2, s2 ≤ s + i ∧ Stamps gi2 s2) → Runs (d + 59) (m_S_owner, 19, [some (.inr (.inr (some (0, 0)))), some (.inl (n32 o)), some (.inl (n32 (sumN (ownN (gi 64 0) Ls o) i))), some (.inl (n32 i))], []) (gi2, g2) (fun r h => ax_call (d + 60) m_M_owner [.inr (.inr (some (12, 0))), .inl (n32 o)] h (fun r' h' => Q r r' h'))) ?_ ?_
    · simp only [b_S_owner_15, ax_psh_none, ax_psh_some, true_and, and_true, and_false, false_and, not_true_eq_false, not_false_eq_true, true_imp_iff, false_imp_iff, imp_self, or_true, true_or, or_false, false_or, and_self, ite_true, ite_false, if_true, if_false]
      exact key 0 (Nat.zero_le _) gi1 g (Fr_refl _ _) (GF_refl hG) ⟨s, by omega, hs1⟩
    · intro i hi ih gi2 g2 fr gf hst
      obtain ⟨s2, hs4, hs3⟩ := hst
      have hG := gf.2.1
      have hB2 := BK_q hB (Fr_trans hq1 (q_co fr)) gf
      have hv := thing_b hB2 hi
      have hO := hv.2.2.1
      have hpi2 := Pap_co (hp i hi) fr
      have e1 : gi2 1 0 1 = n32 nt := hB2.2.2.1.2.2.2.2.1
      rw [b_S_owner_19]
      by_cases z : Ok (gi 64 0) i = o
      · simp (disch := omega) only [b_S_owner_30, b_S_owner_43, G_0_0 hG, G_0_1 hG, G_0_2 hG, G_0_3 hG, G_0_7 hG, G_0_10 hG, G_0_12 hG, G_0_13 hG, G_0_14 hG, G_0_15 hG, G_0_16 hG, G_0_17 hG, G_1_0 hG, G_1_2 hG, G_1_5 hG, G_2_4 hG, G_2_5 hG, G_3_5 hG, G_3_6 hG, G_3_7 hG, G_3_8 hG, G_3_9 hG, G_5_0 hG, G_5_1 hG, G_6_0 hG, G_6_1 hG, G_6_2 hG, G_6_9 hG, G_6_10 hG, G_6_11 hG, G_6_12 hG, G_6_13 hG, G_7_0 hG, G_7_5 hG, G_8_8 hG, G_8_9 hG, G_9_8 hG, G_9_9 hG, G_10_7 hG, G_10_8 hG, G_10_9 hG, G_10_10 hG, G_10_11 hG, G_11_0 hG, G_12_2 hG, G_12_3 hG, G_12_4 hG, G_12_5 hG, G_12_7 hG, G_12_8 hG, G_12_9 hG, G_12_12 hG, G_12_13 hG, G_12_14 hG, G_12_22 hG, G_12_23 hG, G_12_29 hG, G_12_30 hG, G_12_31 hG, G_12_37 hG, G_12_38 hG, G_12_39 hG, G_12_40 hG, G_12_41 hG, G_12_43 hG, G_12_46 hG, G_12_47 hG, G_12_48 hG, G_25 hG, G_26 hG, G_47 hG, G_58 hG, e1, hi, hpi2.2.1, z, n32_add, n32_mul, n32_lt, n32_le, n32_eq, n32_clamp, n32_inT, n32_div, n32_rem, n32_m1, n32_m1', n32_m1lt, n32_ltm1, n32_10, n32_01, Nat.not_lt_zero, Nat.lt_irrefl, Nat.mul_zero, Nat.zero_mul, Nat.zero_add, Nat.add_zero, Nat.reduceEqDiff, Nat.one_ne_zero, Nat.zero_ne_one, ax_psh_none, ax_psh_some, true_and, and_true, and_false, false_and, not_true_eq_false, not_false_eq_true, true_imp_iff, false_imp_iff, imp_self, or_true, true_or, or_false, false_or, and_self, ite_true, ite_false, if_true, if_false]
        refine c_handOver (d := d + 55) hB2 hi hpi2 hs3 (by omega) ?_
        intro gi3 g3 lw fr3 gf3 hc3
        have hG := gf3.2.1
        simp (disch := omega) only [b_S_owner_53, G_0_0 hG, G_0_1 hG, G_0_2 hG, G_0_3 hG, G_0_7 hG, G_0_10 hG, G_0_12 hG, G_0_13 hG, G_0_14 hG, G_0_15 hG, G_0_16 hG, G_0_17 hG, G_1_0 hG, G_1_2 hG, G_1_5 hG, G_2_4 hG, G_2_5 hG, G_3_5 hG, G_3_6 hG, G_3_7 hG, G_3_8 hG, G_3_9 hG, G_5_0 hG, G_5_1 hG, G_6_0 hG, G_6_1 hG, G_6_2 hG, G_6_9 hG, G_6_10 hG, G_6_11 hG, G_6_12 hG, G_6_13 hG, G_7_0 hG, G_7_5 hG, G_8_8 hG, G_8_9 hG, G_9_8 hG, G_9_9 hG, G_10_7 hG, G_10_8 hG, G_10_9 hG, G_10_10 hG, G_10_11 hG, G_11_0 hG, G_12_2 hG, G_12_3 hG, G_12_4 hG, G_12_5 hG, G_12_7 hG, G_12_8 hG, G_12_9 hG, G_12_12 hG, G_12_13 hG, G_12_14 hG, G_12_22 hG, G_12_23 hG, G_12_29 hG, G_12_30 hG, G_12_31 hG, G_12_37 hG, G_12_38 hG, G_12_39 hG, G_12_40 hG, G_12_41 hG, G_12_43 hG, G_12_46 hG, G_12_47 hG, G_12_48 hG, G_25 hG, G_26 hG, G_47 hG, G_58 hG, ax_psh_none, ax_psh_some, true_and, and_true, and_false, false_and, not_true_eq_false, not_false_eq_true, true_imp_iff, false_imp_iff, imp_self, or_true, true_or, or_false, false_or, and_self, ite_true, ite_false, if_true, if_false]
        refine c_owed (d := d + 54) hG hc3 (Pap_co hpi2 fr3) ?_
        intro gi4 fr4 hc4
        simp only [b_S_owner_61, b_S_owner_63, n32_add, ax_psh_none, ax_psh_some, true_and, and_true, and_false, false_and, not_true_eq_false, not_false_eq_true, true_imp_iff, false_imp_iff, imp_self, or_true, true_or, or_false, false_or, and_self, ite_true, ite_false, if_true, if_false]
        have := ih gi4 g3 (Fr_trans (Fr_trans fr fr3) (co_clk fr4)) (GF_trans gf gf3) ⟨s2 + 1, by omega, hc4.2.2.2.1⟩
        rw [sumN_succ, ownN, if_pos z] at this
        exact this
      · simp (disch := omega) only [b_S_owner_30, b_S_owner_63, G_0_0 hG, G_0_1 hG, G_0_2 hG, G_0_3 hG, G_0_7 hG, G_0_10 hG, G_0_12 hG, G_0_13 hG, G_0_14 hG, G_0_15 hG, G_0_16 hG, G_0_17 hG, G_1_0 hG, G_1_2 hG, G_1_5 hG, G_2_4 hG, G_2_5 hG, G_3_5 hG, G_3_6 hG, G_3_7 hG, G_3_8 hG, G_3_9 hG, G_5_0 hG, G_5_1 hG, G_6_0 hG, G_6_1 hG, G_6_2 hG, G_6_9 hG, G_6_10 hG, G_6_11 hG, G_6_12 hG, G_6_13 hG, G_7_0 hG, G_7_5 hG, G_8_8 hG, G_8_9 hG, G_9_8 hG, G_9_9 hG, G_10_7 hG, G_10_8 hG, G_10_9 hG, G_10_10 hG, G_10_11 hG, G_11_0 hG, G_12_2 hG, G_12_3 hG, G_12_4 hG, G_12_5 hG, G_12_7 hG, G_12_8 hG, G_12_9 hG, G_12_12 hG, G_12_13 hG, G_12_14 hG, G_12_22 hG, G_12_23 hG, G_12_29 hG, G_12_30 hG, G_12_31 hG, G_12_37 hG, G_12_38 hG, G_12_39 hG, G_12_40 hG, G_12_41 hG, G_12_43 hG, G_12_46 hG, G_12_47 hG, G_12_48 hG, G_25 hG, G_26 hG, G_47 hG, G_58 hG, e1, hi, hpi2.2.1, z, n32_add, n32_mul, n32_lt, n32_le, n32_eq, n32_clamp, n32_inT, n32_div, n32_rem, n32_m1, n32_m1', n32_m1lt, n32_ltm1, n32_10, n32_01, Nat.not_lt_zero, Nat.lt_irrefl, Nat.mul_zero, Nat.zero_mul, Nat.zero_add, Nat.add_zero, Nat.reduceEqDiff, Nat.one_ne_zero, Nat.zero_ne_one, ax_psh_none, ax_psh_some, true_and, and_true, and_false, false_and, not_true_eq_false, not_false_eq_true, true_imp_iff, false_imp_iff, imp_self, or_true, true_or, or_false, false_or, and_self, ite_true, ite_false, if_true, if_false]
        have := ih gi2 g2 fr gf ⟨s2, by omega, hs3⟩
        rw [sumN_succ, ownN, if_neg z] at this
        exact this
    · intro gi2 g2 fr gf hst
      obtain ⟨s2, hs4, hs3⟩ := hst
      have hG := gf.2.1
      have hq2 := Fr_trans hq1 (q_co fr)
      have hB2 := BK_q hB hq2 gf
      have e1 : gi2 1 0 1 = n32 nt := hB2.2.2.1.2.2.2.2.1
      rw [b_S_owner_19]
      simp (disch := omega) only [b_S_owner_69, G_0_0 hG, G_0_1 hG, G_0_2 hG, G_0_3 hG, G_0_7 hG, G_0_10 hG, G_0_12 hG, G_0_13 hG, G_0_14 hG, G_0_15 hG, G_0_16 hG, G_0_17 hG, G_1_0 hG, G_1_2 hG, G_1_5 hG, G_2_4 hG, G_2_5 hG, G_3_5 hG, G_3_6 hG, G_3_7 hG, G_3_8 hG, G_3_9 hG, G_5_0 hG, G_5_1 hG, G_6_0 hG, G_6_1 hG, G_6_2 hG, G_6_9 hG, G_6_10 hG, G_6_11 hG, G_6_12 hG, G_6_13 hG, G_7_0 hG, G_7_5 hG, G_8_8 hG, G_8_9 hG, G_9_8 hG, G_9_9 hG, G_10_7 hG, G_10_8 hG, G_10_9 hG, G_10_10 hG, G_10_11 hG, G_11_0 hG, G_12_2 hG, G_12_3 hG, G_12_4 hG, G_12_5 hG, G_12_7 hG, G_12_8 hG, G_12_9 hG, G_12_12 hG, G_12_13 hG, G_12_14 hG, G_12_22 hG, G_12_23 hG, G_12_29 hG, G_12_30 hG, G_12_31 hG, G_12_37 hG, G_12_38 hG, G_12_39 hG, G_12_40 hG, G_12_41 hG, G_12_43 hG, G_12_46 hG, G_12_47 hG, G_12_48 hG, G_25 hG, G_26 hG, G_47 hG, G_58 hG, e1, n32_add, n32_mul, n32_lt, n32_le, n32_eq, n32_clamp, n32_inT, n32_div, n32_rem, n32_m1, n32_m1', n32_m1lt, n32_ltm1, n32_10, n32_01, Nat.not_lt_zero, Nat.lt_irrefl, Nat.mul_zero, Nat.zero_mul, Nat.zero_add, Nat.add_zero, Nat.reduceEqDiff, Nat.one_ne_zero, Nat.zero_ne_one, ax_psh_none, ax_psh_some, true_and, and_true, and_false, false_and, not_true_eq_false, not_false_eq_true, true_imp_iff, false_imp_iff, imp_self, or_true, true_or, or_false, false_or, and_self, ite_true, ite_false, if_true, if_false]
      refine c_M_owner (D := d + 60) (by omega) (by omega) hB2 ?_
      intro gi3 fr3
      exact q_end hC hQ (Fr_trans hq2 (qMod_ow fr3)) gf (PI_ow (PI_co hpi fr) fr3) (St_ow hs3 fr3) (by omega) _
  · simp (disch := omega) only [e_S_owner, b_S_owner_0, b_S_owner_6, b_S_owner_9, e_M_owner, b_M_owner_0, b_M_owner_6, b_M_owner_9, c_S_within, c_M_lies, hw, n32_add, n32_mul, n32_lt, n32_le, n32_eq, n32_clamp, n32_inT, n32_div, n32_rem, n32_m1, n32_m1', n32_m1lt, n32_ltm1, n32_10, n32_01, Nat.not_lt_zero, Nat.lt_irrefl, Nat.mul_zero, Nat.zero_mul, Nat.zero_add, Nat.add_zero, Nat.reduceEqDiff, Nat.one_ne_zero, Nat.zero_ne_one, ax_psh_none, ax_psh_some, true_and, and_true, and_false, false_and, not_true_eq_false, not_false_eq_true, true_imp_iff, false_imp_iff, imp_self, or_true, true_or, or_false, false_or, and_self, ite_true, ite_false, if_true, if_false]
    exact op_end (D := d) (Core_same hC) hQ _
theorem op_brings (x : Int32) : Op m_S_brings m_M_brings [.inl x] := by
  intro D n gi g Ls Q hD hn hC hQ
  obtain ⟨d, rfl⟩ : ∃ d2, D = d2 + 60 := ⟨D - 60, by omega⟩
  obtain ⟨nt, m, s, hB, hG, b1, n6, hTh, hPI, hs2, hs, k796⟩ := ask_of hC
  have m6 := hB.2.2.1.2.1
  have b3 : gi 1 0 3 = n32 m := hB.2.2.1.2.2.2.2.2.1
  have k797 : gi 64 0 797 = n32 m := hB.2.2.1.2.2.2.1
  have c1 : (n32 1).toNatClampNeg = 1 := by decide
  rcases win_law (x := x) m6 with ⟨hw, hx⟩ | ⟨hw, hx1, hx2⟩
  · have go : Runs (d + 59) (m_S_brings, 18, [some (.inr (.inr (some (0, 0)))), some (.inl x)], []) (gi, g) (fun r h => ax_call (d + 60) m_M_brings [.inr (.inr (some (12, 0))), .inl x] h (fun r' h' => Q r r' h')) := by
      rw [b_S_brings_18]
      refine c_layOut (d := d + 54) hG b1 n6 hTh hPI ?_
      intro gi1 ho hp hpi
      have hq1 := qMod_Ps ho
      have hB1 := BK_q hB hq1 (GF_refl hG)
      have hs1 := St_q hs ho
      obtain ⟨-, ⟨a3, a4⟩, -, -⟩ := terms_k hB1.2.2.1.2.2.2.2.2.2.2.2.1
      have t1 : gi1 28 0 1 = n32 (dyk (gi 64 0)) := (hB1.2.2.1.2.2.2.2.2.2.2.2.2 1 (by omega)).trans a3
      simp (disch := omega) only [b_S_brings_22, G_0_0 hG, G_0_1 hG, G_0_2 hG, G_0_3 hG, G_0_7 hG, G_0_10 hG, G_0_12 hG, G_0_13 hG, G_0_14 hG, G_0_15 hG, G_0_16 hG, G_0_17 hG, G_1_0 hG, G_1_2 hG, G_1_5 hG, G_2_4 hG, G_2_5 hG, G_3_5 hG, G_3_6 hG, G_3_7 hG, G_3_8 hG, G_3_9 hG, G_5_0 hG, G_5_1 hG, G_6_0 hG, G_6_1 hG, G_6_2 hG, G_6_9 hG, G_6_10 hG, G_6_11 hG, G_6_12 hG, G_6_13 hG, G_7_0 hG, G_7_5 hG, G_8_8 hG, G_8_9 hG, G_9_8 hG, G_9_9 hG, G_10_7 hG, G_10_8 hG, G_10_9 hG, G_10_10 hG, G_10_11 hG, G_11_0 hG, G_12_2 hG, G_12_3 hG, G_12_4 hG, G_12_5 hG, G_12_7 hG, G_12_8 hG, G_12_9 hG, G_12_12 hG, G_12_13 hG, G_12_14 hG, G_12_22 hG, G_12_23 hG, G_12_29 hG, G_12_30 hG, G_12_31 hG, G_12_37 hG, G_12_38 hG, G_12_39 hG, G_12_40 hG, G_12_41 hG, G_12_43 hG, G_12_46 hG, G_12_47 hG, G_12_48 hG, G_25 hG, G_26 hG, G_47 hG, G_58 hG, ax_psh_none, ax_psh_some, true_and, and_true, and_false, false_and, not_true_eq_false, not_false_eq_true, true_imp_iff, false_imp_iff, imp_self, or_true, true_or, or_false, false_or, and_self, ite_true, ite_false, if_true, if_false]
      refine lawAt_b (d := d + 56) hB1 hx ?_
      intro lw hlw
      have fin : ∀ o1, ax_call (d + 59) m_S_owedByAll [.inr (.inr (some (0, 0))), .inr (.inr lw), .inl (n32 (dyk (gi 64 0)))] (gi1, g) (fun r h' => Runs (d + 59) (m_S_brings, 43, [some (.inr (.inr (some (0, 0)))), o1], ax_psh r []) h' (fun r h => ax_call (d + 60) m_M_brings [.inr (.inr (some (12, 0))), .inl x] h (fun r' h' => Q r r' h'))) := by
        intro o1
        refine c_owedByAll (d := d + 53) (bb := bk (gi 64 0)) hB1 (fun t ht => hp t ht) hlw (by omega) hs1 (by omega) ?_
        intro gi2 g2 fr2 gf2 hs3
        simp only [b_S_brings_43, ax_psh_none, ax_psh_some, true_and, and_true, and_false, false_and, not_true_eq_false, not_false_eq_true, true_imp_iff, false_imp_iff, imp_self, or_true, true_or, or_false, false_or, and_self, ite_true, ite_false, if_true, if_false]
        have hq2 := Fr_trans hq1 (q_co fr2)
        refine c_M_brings (D := d + 60) (by omega) hx hw (BK_q hB hq2 gf2) ?_
        intro gi3 fr3
        exact q_end hC hQ (Fr_trans hq2 (qMod_ow fr3)) gf2 (PI_ow (PI_co hpi fr2) fr3) (St_ow hs3 fr3) (by omega) _
      rcases lw_cases hlw with rfl | ⟨q, rfl⟩
      · simp (disch := omega) only [b_S_brings_31a, G_0_0 hG, G_0_1 hG, G_0_2 hG, G_0_3 hG, G_0_7 hG, G_0_10 hG, G_0_12 hG, G_0_13 hG, G_0_14 hG, G_0_15 hG, G_0_16 hG, G_0_17 hG, G_1_0 hG, G_1_2 hG, G_1_5 hG, G_2_4 hG, G_2_5 hG, G_3_5 hG, G_3_6 hG, G_3_7 hG, G_3_8 hG, G_3_9 hG, G_5_0 hG, G_5_1 hG, G_6_0 hG, G_6_1 hG, G_6_2 hG, G_6_9 hG, G_6_10 hG, G_6_11 hG, G_6_12 hG, G_6_13 hG, G_7_0 hG, G_7_5 hG, G_8_8 hG, G_8_9 hG, G_9_8 hG, G_9_9 hG, G_10_7 hG, G_10_8 hG, G_10_9 hG, G_10_10 hG, G_10_11 hG, G_11_0 hG, G_12_2 hG, G_12_3 hG, G_12_4 hG, G_12_5 hG, G_12_7 hG, G_12_8 hG, G_12_9 hG, G_12_12 hG, G_12_13 hG, G_12_14 hG, G_12_22 hG, G_12_23 hG, G_12_29 hG, G_12_30 hG, G_12_31 hG, G_12_37 hG, G_12_38 hG, G_12_39 hG, G_12_40 hG, G_12_41 hG, G_12_43 hG, G_12_46 hG, G_12_47 hG, G_12_48 hG, G_25 hG, G_26 hG, G_47 hG, G_58 hG, c1, t1, n32_add, n32_mul, n32_lt, n32_le, n32_eq, n32_clamp, n32_inT, n32_div, n32_rem, n32_m1, n32_m1', n32_m1lt, n32_ltm1, n32_10, n32_01, Nat.not_lt_zero, Nat.lt_irrefl, Nat.mul_zero, Nat.zero_mul, Nat.zero_add, Nat.add_zero, Nat.reduceEqDiff, Nat.one_ne_zero, Nat.zero_ne_one, ax_psh_none, ax_psh_some, true_and, and_true, and_false, false_and, not_true_eq_false, not_false_eq_true, true_imp_iff, false_imp_iff, imp_self, or_true, true_or, or_false, false_or, and_self, ite_true, ite_false, if_true, if_false]
        exact fin _
      · simp (disch := omega) only [b_S_brings_31b, G_0_0 hG, G_0_1 hG, G_0_2 hG, G_0_3 hG, G_0_7 hG, G_0_10 hG, G_0_12 hG, G_0_13 hG, G_0_14 hG, G_0_15 hG, G_0_16 hG, G_0_17 hG, G_1_0 hG, G_1_2 hG, G_1_5 hG, G_2_4 hG, G_2_5 hG, G_3_5 hG, G_3_6 hG, G_3_7 hG, G_3_8 hG, G_3_9 hG, G_5_0 hG, G_5_1 hG, G_6_0 hG, G_6_1 hG, G_6_2 hG, G_6_9 hG, G_6_10 hG, G_6_11 hG, G_6_12 hG, G_6_13 hG, G_7_0 hG, G_7_5 hG, G_8_8 hG, G_8_9 hG, G_9_8 hG, G_9_9 hG, G_10_7 hG, G_10_8 hG, G_10_9 hG, G_10_10 hG, G_10_11 hG, G_11_0 hG, G_12_2 hG, G_12_3 hG, G_12_4 hG, G_12_5 hG, G_12_7 hG, G_12_8 hG, G_12_9 hG, G_12_12 hG, G_12_13 hG, G_12_14 hG, G_12_22 hG, G_12_23 hG, G_12_29 hG, G_12_30 hG, G_12_31 hG, G_12_37 hG, G_12_38 hG, G_12_39 hG, G_12_40 hG, G_12_41 hG, G_12_43 hG, G_12_46 hG, G_12_47 hG, G_12_48 hG, G_25 hG, G_26 hG, G_47 hG, G_58 hG, c1, t1, n32_add, n32_mul, n32_lt, n32_le, n32_eq, n32_clamp, n32_inT, n32_div, n32_rem, n32_m1, n32_m1', n32_m1lt, n32_ltm1, n32_10, n32_01, Nat.not_lt_zero, Nat.lt_irrefl, Nat.mul_zero, Nat.zero_mul, Nat.zero_add, Nat.add_zero, Nat.reduceEqDiff, Nat.one_ne_zero, Nat.zero_ne_one, ax_psh_none, ax_psh_some, true_and, and_true, and_false, false_and, not_true_eq_false, not_false_eq_true, true_imp_iff, false_imp_iff, imp_self, or_true, true_or, or_false, false_or, and_self, ite_true, ite_false, if_true, if_false]
        exact fin _
    rw [e_S_brings, b_S_brings_0]
    refine ⟨fun _ => go, fun z => ?_⟩
    rcases hx with hx | ⟨f, hf, rfl⟩
    · exact absurd hx z
    · simp (disch := omega) only [b_S_brings_5, b_S_brings_13, G_0_0 hG, G_0_1 hG, G_0_2 hG, G_0_3 hG, G_0_7 hG, G_0_10 hG, G_0_12 hG, G_0_13 hG, G_0_14 hG, G_0_15 hG, G_0_16 hG, G_0_17 hG, G_1_0 hG, G_1_2 hG, G_1_5 hG, G_2_4 hG, G_2_5 hG, G_3_5 hG, G_3_6 hG, G_3_7 hG, G_3_8 hG, G_3_9 hG, G_5_0 hG, G_5_1 hG, G_6_0 hG, G_6_1 hG, G_6_2 hG, G_6_9 hG, G_6_10 hG, G_6_11 hG, G_6_12 hG, G_6_13 hG, G_7_0 hG, G_7_5 hG, G_8_8 hG, G_8_9 hG, G_9_8 hG, G_9_9 hG, G_10_7 hG, G_10_8 hG, G_10_9 hG, G_10_10 hG, G_10_11 hG, G_11_0 hG, G_12_2 hG, G_12_3 hG, G_12_4 hG, G_12_5 hG, G_12_7 hG, G_12_8 hG, G_12_9 hG, G_12_12 hG, G_12_13 hG, G_12_14 hG, G_12_22 hG, G_12_23 hG, G_12_29 hG, G_12_30 hG, G_12_31 hG, G_12_37 hG, G_12_38 hG, G_12_39 hG, G_12_40 hG, G_12_41 hG, G_12_43 hG, G_12_46 hG, G_12_47 hG, G_12_48 hG, G_25 hG, G_26 hG, G_47 hG, G_58 hG, c_Books_hasLaw, b3, win_sT hf (by omega), n32_add, n32_mul, n32_lt, n32_le, n32_eq, n32_clamp, n32_inT, n32_div, n32_rem, n32_m1, n32_m1', n32_m1lt, n32_ltm1, n32_10, n32_01, Nat.not_lt_zero, Nat.lt_irrefl, Nat.mul_zero, Nat.zero_mul, Nat.zero_add, Nat.add_zero, Nat.reduceEqDiff, Nat.one_ne_zero, Nat.zero_ne_one, ax_psh_none, ax_psh_some, true_and, and_true, and_false, false_and, not_true_eq_false, not_false_eq_true, true_imp_iff, false_imp_iff, imp_self, or_true, true_or, or_false, false_or, and_self, ite_true, ite_false, if_true, if_false]
      exact go
  · rw [e_S_brings, b_S_brings_0]
    refine ⟨fun z => absurd z hx1, fun _ => ?_⟩
    simp (disch := omega) only [b_S_brings_5, b_S_brings_13, b_S_brings_16, G_0_0 hG, G_0_1 hG, G_0_2 hG, G_0_3 hG, G_0_7 hG, G_0_10 hG, G_0_12 hG, G_0_13 hG, G_0_14 hG, G_0_15 hG, G_0_16 hG, G_0_17 hG, G_1_0 hG, G_1_2 hG, G_1_5 hG, G_2_4 hG, G_2_5 hG, G_3_5 hG, G_3_6 hG, G_3_7 hG, G_3_8 hG, G_3_9 hG, G_5_0 hG, G_5_1 hG, G_6_0 hG, G_6_1 hG, G_6_2 hG, G_6_9 hG, G_6_10 hG, G_6_11 hG, G_6_12 hG, G_6_13 hG, G_7_0 hG, G_7_5 hG, G_8_8 hG, G_8_9 hG, G_9_8 hG, G_9_9 hG, G_10_7 hG, G_10_8 hG, G_10_9 hG, G_10_10 hG, G_10_11 hG, G_11_0 hG, G_12_2 hG, G_12_3 hG, G_12_4 hG, G_12_5 hG, G_12_7 hG, G_12_8 hG, G_12_9 hG, G_12_12 hG, G_12_13 hG, G_12_14 hG, G_12_22 hG, G_12_23 hG, G_12_29 hG, G_12_30 hG, G_12_31 hG, G_12_37 hG, G_12_38 hG, G_12_39 hG, G_12_40 hG, G_12_41 hG, G_12_43 hG, G_12_46 hG, G_12_47 hG, G_12_48 hG, G_25 hG, G_26 hG, G_47 hG, G_58 hG, c_Books_hasLaw, b3, hx2, c_M_brings_n _ hG k797 hw, n32_add, n32_mul, n32_lt, n32_le, n32_eq, n32_clamp, n32_inT, n32_div, n32_rem, n32_m1, n32_m1', n32_m1lt, n32_ltm1, n32_10, n32_01, Nat.not_lt_zero, Nat.lt_irrefl, Nat.mul_zero, Nat.zero_mul, Nat.zero_add, Nat.add_zero, Nat.reduceEqDiff, Nat.one_ne_zero, Nat.zero_ne_one, ax_psh_none, ax_psh_some, true_and, and_true, and_false, false_and, not_true_eq_false, not_false_eq_true, true_imp_iff, false_imp_iff, imp_self, or_true, true_or, or_false, false_or, and_self, ite_true, ite_false, if_true, if_false]
    exact op_end (D := d) (Core_same hC) hQ _
theorem op_dearest : Op m_S_dearest m_M_dearest [] := by
  intro D n gi g Ls Q hD hn hC hQ
  obtain ⟨d, rfl⟩ : ∃ d2, D = d2 + 60 := ⟨D - 60, by omega⟩
  obtain ⟨nt, m, s, hB, hG, b1, n6, hTh, hPI, hs2, hs, k796⟩ := ask_of hC
  have m6 := hB.2.2.1.2.1
  have c1 : (n32 1).toNatClampNeg = 1 := by decide
  rw [e_S_dearest, b_S_dearest_0]
  refine c_layOut (d := d + 54) hG b1 n6 hTh hPI ?_
  intro gi1 ho hp hpi
  have hq1 := qMod_Ps ho
  have hs1 := St_q hs ho
  have key := loop_up (n := m) (P := fun i => ∀ gi2 g2 o4, Fr coMod gi1 gi2 → GF g g2 → (∃ s2, s2 ≤ s + 6 * i ∧ Stamps gi2 s2) → Runs (d + 59) (m_S_dearest, 10, [some (.inr (.inr (some (0, 0)))), some (.inl (drF (fun l => sumN (owK (gi 64 0) (lawL Ls (n32 l)) (dyk (gi 64 0)) (bk (gi 64 0))) nt) i).2), some (.inl (drF (fun l => sumN (owK (gi 64 0) (lawL Ls (n32 l)) (dyk (gi 64 0)) (bk (gi 64 0))) nt) i).1), some (.inl (n32 i)), o4], []) (gi2, g2) (fun r h => ax_call (d + 60) m_M_dearest [.inr (.inr (some (12, 0)))] h (fun r' h' => Q r r' h'))) ?_ ?_
  · simp only [b_S_dearest_4, ax_psh_none, ax_psh_some, true_and, and_true, and_false, false_and, not_true_eq_false, not_false_eq_true, true_imp_iff, false_imp_iff, imp_self, or_true, true_or, or_false, false_or, and_self, ite_true, ite_false, if_true, if_false]
    exact key 0 (Nat.zero_le _) gi1 g _ (Fr_refl _ _) (GF_refl hG) ⟨s, by omega, hs1⟩
  · intro i hi ih gi2 g2 o4 fr gf hst
    obtain ⟨s2, hs4, hs3⟩ := hst
    have hG := gf.2.1
    have hB2 := BK_q hB (Fr_trans hq1 (q_co fr)) gf
    have e3 : gi2 1 0 3 = n32 m := hB2.2.2.1.2.2.2.2.2.1
    obtain ⟨-, ⟨a3, a4⟩, -, -⟩ := terms_k hB2.2.2.1.2.2.2.2.2.2.2.2.1
    have t1 : gi2 28 0 1 = n32 (dyk (gi 64 0)) := (hB2.2.2.1.2.2.2.2.2.2.2.2.2 1 (by omega)).trans a3
    rw [b_S_dearest_10]
    simp (disch := omega) only [b_S_dearest_21, G_0_0 hG, G_0_1 hG, G_0_2 hG, G_0_3 hG, G_0_7 hG, G_0_10 hG, G_0_12 hG, G_0_13 hG, G_0_14 hG, G_0_15 hG, G_0_16 hG, G_0_17 hG, G_1_0 hG, G_1_2 hG, G_1_5 hG, G_2_4 hG, G_2_5 hG, G_3_5 hG, G_3_6 hG, G_3_7 hG, G_3_8 hG, G_3_9 hG, G_5_0 hG, G_5_1 hG, G_6_0 hG, G_6_1 hG, G_6_2 hG, G_6_9 hG, G_6_10 hG, G_6_11 hG, G_6_12 hG, G_6_13 hG, G_7_0 hG, G_7_5 hG, G_8_8 hG, G_8_9 hG, G_9_8 hG, G_9_9 hG, G_10_7 hG, G_10_8 hG, G_10_9 hG, G_10_10 hG, G_10_11 hG, G_11_0 hG, G_12_2 hG, G_12_3 hG, G_12_4 hG, G_12_5 hG, G_12_7 hG, G_12_8 hG, G_12_9 hG, G_12_12 hG, G_12_13 hG, G_12_14 hG, G_12_22 hG, G_12_23 hG, G_12_29 hG, G_12_30 hG, G_12_31 hG, G_12_37 hG, G_12_38 hG, G_12_39 hG, G_12_40 hG, G_12_41 hG, G_12_43 hG, G_12_46 hG, G_12_47 hG, G_12_48 hG, G_25 hG, G_26 hG, G_47 hG, G_58 hG, e3, hi, n32_add, n32_mul, n32_lt, n32_le, n32_eq, n32_clamp, n32_inT, n32_div, n32_rem, n32_m1, n32_m1', n32_m1lt, n32_ltm1, n32_10, n32_01, Nat.not_lt_zero, Nat.lt_irrefl, Nat.mul_zero, Nat.zero_mul, Nat.zero_add, Nat.add_zero, Nat.reduceEqDiff, Nat.one_ne_zero, Nat.zero_ne_one, ax_psh_none, ax_psh_some, true_and, and_true, and_false, false_and, not_true_eq_false, not_false_eq_true, true_imp_iff, false_imp_iff, imp_self, or_true, true_or, or_false, false_or, and_self, ite_true, ite_false, if_true, if_false]
    refine lawAt_b (d := d + 56) hB2 (Or.inr ⟨i, hi, rfl⟩) ?_
    intro lw hlw
    have fin : ax_call (d + 59) m_S_owedByAll [.inr (.inr (some (0, 0))), .inr (.inr lw), .inl (n32 (dyk (gi 64 0)))] (gi2, g2) (fun r h' => Runs (d + 59) (m_S_dearest, 42, [some (.inr (.inr (some (0, 0)))), some (.inl (drF (fun l => sumN (owK (gi 64 0) (lawL Ls (n32 l)) (dyk (gi 64 0)) (bk (gi 64 0))) nt) i).2), some (.inl (drF (fun l => sumN (owK (gi 64 0) (lawL Ls (n32 l)) (dyk (gi 64 0)) (bk (gi 64 0))) nt) i).1), some (.inl (n32 i)), o4], ax_psh r []) h' (fun r h => ax_call (d + 60) m_M_dearest [.inr (.inr (some (12, 0)))] h (fun r' h' => Q r r' h'))) := by
      refine c_owedByAll (d := d + 53) (bb := bk (gi 64 0)) hB2 (fun t ht => Pap_co (hp t ht) fr) hlw (by omega) hs3 (by omega) ?_
      intro gi3 g3 fr3 gf3 hs5
      simp only [b_S_dearest_42, ax_psh_none, ax_psh_some, true_and, and_true, and_false, false_and, not_true_eq_false, not_false_eq_true, true_imp_iff, false_imp_iff, imp_self, or_true, true_or, or_false, false_or, and_self, ite_true, ite_false, if_true, if_false]
      refine ⟨fun z => ?_, fun z => ?_⟩
      · rw [b_S_dearest_50, b_S_dearest_55, n32_add]
        have := ih gi3 g3 (some (.inl (n32 (sumN (owK (gi 64 0) (lawL Ls (n32 i)) (dyk (gi 64 0)) (bk (gi 64 0))) nt)))) (Fr_trans fr fr3) (GF_trans gf gf3) ⟨s2 + nt, by omega, hs5⟩
        rw [drF, if_pos z] at this
        exact this
      · rw [b_S_dearest_55, n32_add]
        have := ih gi3 g3 (some (.inl (n32 (sumN (owK (gi 64 0) (lawL Ls (n32 i)) (dyk (gi 64 0)) (bk (gi 64 0))) nt)))) (Fr_trans fr fr3) (GF_trans gf gf3) ⟨s2 + nt, by omega, hs5⟩
        rw [drF, if_neg z] at this
        exact this
    rcases lw_cases hlw with rfl | ⟨q, rfl⟩
    · simp (disch := omega) only [b_S_dearest_30a, G_0_0 hG, G_0_1 hG, G_0_2 hG, G_0_3 hG, G_0_7 hG, G_0_10 hG, G_0_12 hG, G_0_13 hG, G_0_14 hG, G_0_15 hG, G_0_16 hG, G_0_17 hG, G_1_0 hG, G_1_2 hG, G_1_5 hG, G_2_4 hG, G_2_5 hG, G_3_5 hG, G_3_6 hG, G_3_7 hG, G_3_8 hG, G_3_9 hG, G_5_0 hG, G_5_1 hG, G_6_0 hG, G_6_1 hG, G_6_2 hG, G_6_9 hG, G_6_10 hG, G_6_11 hG, G_6_12 hG, G_6_13 hG, G_7_0 hG, G_7_5 hG, G_8_8 hG, G_8_9 hG, G_9_8 hG, G_9_9 hG, G_10_7 hG, G_10_8 hG, G_10_9 hG, G_10_10 hG, G_10_11 hG, G_11_0 hG, G_12_2 hG, G_12_3 hG, G_12_4 hG, G_12_5 hG, G_12_7 hG, G_12_8 hG, G_12_9 hG, G_12_12 hG, G_12_13 hG, G_12_14 hG, G_12_22 hG, G_12_23 hG, G_12_29 hG, G_12_30 hG, G_12_31 hG, G_12_37 hG, G_12_38 hG, G_12_39 hG, G_12_40 hG, G_12_41 hG, G_12_43 hG, G_12_46 hG, G_12_47 hG, G_12_48 hG, G_25 hG, G_26 hG, G_47 hG, G_58 hG, c1, t1, n32_add, n32_mul, n32_lt, n32_le, n32_eq, n32_clamp, n32_inT, n32_div, n32_rem, n32_m1, n32_m1', n32_m1lt, n32_ltm1, n32_10, n32_01, Nat.not_lt_zero, Nat.lt_irrefl, Nat.mul_zero, Nat.zero_mul, Nat.zero_add, Nat.add_zero, Nat.reduceEqDiff, Nat.one_ne_zero, Nat.zero_ne_one, ax_psh_none, ax_psh_some, true_and, and_true, and_false, false_and, not_true_eq_false, not_false_eq_true, true_imp_iff, false_imp_iff, imp_self, or_true, true_or, or_false, false_or, and_self, ite_true, ite_false, if_true, if_false]
      exact fin
    · simp (disch := omega) only [b_S_dearest_30b, G_0_0 hG, G_0_1 hG, G_0_2 hG, G_0_3 hG, G_0_7 hG, G_0_10 hG, G_0_12 hG, G_0_13 hG, G_0_14 hG, G_0_15 hG, G_0_16 hG, G_0_17 hG, G_1_0 hG, G_1_2 hG, G_1_5 hG, G_2_4 hG, G_2_5 hG, G_3_5 hG, G_3_6 hG, G_3_7 hG, G_3_8 hG, G_3_9 hG, G_5_0 hG, G_5_1 hG, G_6_0 hG, G_6_1 hG, G_6_2 hG, G_6_9 hG, G_6_10 hG, G_6_11 hG, G_6_12 hG, G_6_13 hG, G_7_0 hG, G_7_5 hG, G_8_8 hG, G_8_9 hG, G_9_8 hG, G_9_9 hG, G_10_7 hG, G_10_8 hG, G_10_9 hG, G_10_10 hG, G_10_11 hG, G_11_0 hG, G_12_2 hG, G_12_3 hG, G_12_4 hG, G_12_5 hG, G_12_7 hG, G_12_8 hG, G_12_9 hG, G_12_12 hG, G_12_13 hG, G_12_14 hG, G_12_22 hG, G_12_23 hG, G_12_29 hG, G_12_30 hG, G_12_31 hG, G_12_37 hG, G_12_38 hG, G_12_39 hG, G_12_40 hG, G_12_41 hG, G_12_43 hG, G_12_46 hG, G_12_47 hG, G_12_48 hG, G_25 hG, G_26 hG, G_47 hG, G_58 hG, c1, t1, n32_add, n32_mul, n32_lt, n32_le, n32_eq, n32_clamp, n32_inT, n32_div, n32_rem, n32_m1, n32_m1', n32_m1lt, n32_ltm1, n32_10, n32_01, Nat.not_lt_zero, Nat.lt_irrefl, Nat.mul_zero, Nat.zero_mul, Nat.zero_add, Nat.add_zero, Nat.reduceEqDiff, Nat.one_ne_zero, Nat.zero_ne_one, ax_psh_none, ax_psh_some, true_and, and_true, and_false, false_and, not_true_eq_false, not_false_eq_true, true_imp_iff, false_imp_iff, imp_self, or_true, true_or, or_false, false_or, and_self, ite_true, ite_false, if_true, if_false]
      exact fin
  · intro gi2 g2 o4 fr gf hst
    obtain ⟨s2, hs4, hs3⟩ := hst
    have hG := gf.2.1
    have hq2 := Fr_trans hq1 (q_co fr)
    have hB2 := BK_q hB hq2 gf
    have e3 : gi2 1 0 3 = n32 m := hB2.2.2.1.2.2.2.2.2.1
    rw [b_S_dearest_10]
    simp (disch := omega) only [b_S_dearest_61, G_0_0 hG, G_0_1 hG, G_0_2 hG, G_0_3 hG, G_0_7 hG, G_0_10 hG, G_0_12 hG, G_0_13 hG, G_0_14 hG, G_0_15 hG, G_0_16 hG, G_0_17 hG, G_1_0 hG, G_1_2 hG, G_1_5 hG, G_2_4 hG, G_2_5 hG, G_3_5 hG, G_3_6 hG, G_3_7 hG, G_3_8 hG, G_3_9 hG, G_5_0 hG, G_5_1 hG, G_6_0 hG, G_6_1 hG, G_6_2 hG, G_6_9 hG, G_6_10 hG, G_6_11 hG, G_6_12 hG, G_6_13 hG, G_7_0 hG, G_7_5 hG, G_8_8 hG, G_8_9 hG, G_9_8 hG, G_9_9 hG, G_10_7 hG, G_10_8 hG, G_10_9 hG, G_10_10 hG, G_10_11 hG, G_11_0 hG, G_12_2 hG, G_12_3 hG, G_12_4 hG, G_12_5 hG, G_12_7 hG, G_12_8 hG, G_12_9 hG, G_12_12 hG, G_12_13 hG, G_12_14 hG, G_12_22 hG, G_12_23 hG, G_12_29 hG, G_12_30 hG, G_12_31 hG, G_12_37 hG, G_12_38 hG, G_12_39 hG, G_12_40 hG, G_12_41 hG, G_12_43 hG, G_12_46 hG, G_12_47 hG, G_12_48 hG, G_25 hG, G_26 hG, G_47 hG, G_58 hG, e3, n32_add, n32_mul, n32_lt, n32_le, n32_eq, n32_clamp, n32_inT, n32_div, n32_rem, n32_m1, n32_m1', n32_m1lt, n32_ltm1, n32_10, n32_01, Nat.not_lt_zero, Nat.lt_irrefl, Nat.mul_zero, Nat.zero_mul, Nat.zero_add, Nat.add_zero, Nat.reduceEqDiff, Nat.one_ne_zero, Nat.zero_ne_one, ax_psh_none, ax_psh_some, true_and, and_true, and_false, false_and, not_true_eq_false, not_false_eq_true, true_imp_iff, false_imp_iff, imp_self, or_true, true_or, or_false, false_or, and_self, ite_true, ite_false, if_true, if_false]
    refine c_M_dearest (D := d + 60) (by omega) hB2 ?_
    intro gi3 fr3
    exact q_end hC hQ (Fr_trans hq2 (qMod_ow fr3)) gf (PI_ow (PI_co hpi fr) fr3) (St_ow hs3 fr3) (by omega) _
