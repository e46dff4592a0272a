/-! law -/
theorem rdAll_no {s j : Nat} (h1 : s ≠ 6) (h2 : ¬ (31 ≤ s ∧ s ≤ 38)) : rdAll s j = false := by
  cases hz : rdAll s j with
  | false => rfl
  | true =>
    exfalso
    unfold rdAll at hz
    have hb : ∀ x y : Nat, Nat.ble x y = true ↔ x ≤ y := fun x y => by rw [Nat.ble_eq]
    simp only [Bool.or_eq_true, Bool.and_eq_true, beq_iff_eq, hb] at hz
    omega
theorem rmAll_no {s j : Nat} (h1 : ¬ (s = 12 ∧ (j = 10 ∨ j = 11 ∨ (15 ≤ j ∧ j ≤ 18)))) (h2 : s ≠ 70) (h3 : s ≠ 71) (h4 : s ≠ 72) : rmAll s j = false := by
  cases hz : rmAll s j with
  | false => rfl
  | true =>
    exfalso
    unfold rmAll at hz
    have hb : ∀ x y : Nat, Nat.ble x y = true ↔ x ≤ y := fun x y => by rw [Nat.ble_eq]
    simp only [Bool.or_eq_true, Bool.and_eq_true, beq_iff_eq, hb] at hz
    omega
/-- the reference keeps the tokens -/
theorem c_M_law_ok {d m N : Nat} {gi : GI} {g : AG} {Q : Option AV → AH → Prop} (hG : GOK g) (hm : m < 6) (hN : N ≤ 400) (k797 : gi 64 0 797 = n32 m) (h15 : gi 12 0 15 = n32 N) (o1 o2 : Option AV)
    (hq : ∀ gi', (∀ s a j, ¬ (s = 64 ∧ a = 0) → gi' s a j = gi s a j) → (∀ j, j ≠ 797 → j ≠ 799 + m → ¬ (805 + 400 * m ≤ j ∧ j < 805 + 400 * m + 400) → ¬ (3205 + 400 * m ≤ j ∧ j < 3205 + 400 * m + 400) → gi' 64 0 j = gi 64 0 j) → gi' 64 0 797 = n32 (m + 1) → gi' 64 0 (799 + m) = n32 N → (∀ i, i < N → gi' 64 0 (805 + (400 * m + i)) = gi 70 0 i ∧ gi' 64 0 (3205 + (400 * m + i)) = gi 71 0 i) → Q (some (.inl (n32 m))) (donM gi', g)) :
    Runs (d + 1) (m_M_law, 39, [some (.inr (.inr (some (12, 0)))), o1, o2], []) (gi, g) Q := by
  have key := loop_up (n := N) (P := fun i => ∀ gi1 : GI, (∀ s a j, ¬ (s = 64 ∧ a = 0) → gi1 s a j = gi s a j) → (∀ j, j ≠ 799 + m → ¬ (805 + 400 * m ≤ j ∧ j < 805 + 400 * m + 400) → ¬ (3205 + 400 * m ≤ j ∧ j < 3205 + 400 * m + 400) → gi1 64 0 j = gi 64 0 j) → gi1 64 0 (799 + m) = n32 N → (∀ c, c < i → gi1 64 0 (805 + (400 * m + c)) = gi 70 0 c ∧ gi1 64 0 (3205 + (400 * m + c)) = gi 71 0 c) → Runs (d + 1) (m_M_law, 64, [some (.inr (.inr (some (12, 0)))), some (.inl (n32 m)), some (.inl (n32 i))], []) (gi1, g) Q) ?_ ?_
  · rw [b_M_law_39]
    simp (disch := omega) only [k797, h15, G_0_0 hG, G_0_1 hG, G_0_2 hG, G_0_3 hG, G_0_7 hG, G_0_10 hG, G_0_12 hG, G_0_13 hG, G_0_14 hG, G_0_15 hG, G_0_16 hG, G_0_17 hG, G_1_0 hG, G_1_2 hG, G_1_5 hG, G_2_4 hG, G_2_5 hG, G_3_5 hG, G_3_6 hG, G_3_7 hG, G_3_8 hG, G_3_9 hG, G_5_0 hG, G_5_1 hG, G_6_0 hG, G_6_1 hG, G_6_2 hG, G_6_9 hG, G_6_10 hG, G_6_11 hG, G_6_12 hG, G_6_13 hG, G_7_0 hG, G_7_5 hG, G_8_8 hG, G_8_9 hG, G_9_8 hG, G_9_9 hG, G_10_7 hG, G_10_8 hG, G_10_9 hG, G_10_10 hG, G_10_11 hG, G_11_0 hG, G_12_2 hG, G_12_3 hG, G_12_4 hG, G_12_5 hG, G_12_7 hG, G_12_8 hG, G_12_9 hG, G_12_12 hG, G_12_13 hG, G_12_14 hG, G_12_22 hG, G_12_23 hG, G_12_29 hG, G_12_30 hG, G_12_31 hG, G_12_37 hG, G_12_38 hG, G_12_39 hG, G_12_40 hG, G_12_41 hG, G_12_43 hG, G_12_46 hG, G_12_47 hG, G_12_48 hG, G_25 hG, G_26 hG, G_47 hG, G_58 hG, n32_add, n32_mul, n32_lt, n32_le, n32_eq, n32_clamp, n32_inT, n32_div, n32_rem, n32_m1, n32_m1', n32_m1lt, n32_ltm1, n32_10, n32_01, Nat.not_lt_zero, Nat.lt_irrefl, Nat.mul_zero, Nat.zero_mul, Nat.zero_add, Nat.add_zero, Nat.reduceEqDiff, Nat.one_ne_zero, Nat.zero_ne_one, ax_psh_none, ax_psh_some, true_and, and_true, and_false, false_and, not_true_eq_false, not_false_eq_true, true_imp_iff, false_imp_iff, imp_self, or_true, true_or, or_false, false_or, and_self, ite_true, ite_false, if_true, if_false]
    refine key 0 (Nat.zero_le _) _ ?_ ?_ ?_ (fun c hc => absurd hc (Nat.not_lt_zero c))
    · intro s a j q
      rw [wI_at, if_neg (by omega)]
    · intro j q1 q2 q3
      rw [wI_at, if_neg (by omega)]
    · rw [wI_self]
  · intro i hi ih gi1 f1 f2 f3 f4
    have e15 : gi1 12 0 15 = n32 N := (f1 12 0 15 (by omega)).trans h15
    have e70 : gi1 70 0 i = gi 70 0 i := f1 70 0 i (by omega)
    have e71 : ∀ j v, ax_wI gi1 64 0 j v 71 0 i = gi 71 0 i := fun j v => by rw [wI_ne (by decide), f1 71 0 i (by omega)]
    rw [b_M_law_64]
    simp (disch := omega) only [b_M_law_72, e15, hi, e70, e71, G_0_0 hG, G_0_1 hG, G_0_2 hG, G_0_3 hG, G_0_7 hG, G_0_10 hG, G_0_12 hG, G_0_13 hG, G_0_14 hG, G_0_15 hG, G_0_16 hG, G_0_17 hG, G_1_0 hG, G_1_2 hG, G_1_5 hG, G_2_4 hG, G_2_5 hG, G_3_5 hG, G_3_6 hG, G_3_7 hG, G_3_8 hG, G_3_9 hG, G_5_0 hG, G_5_1 hG, G_6_0 hG, G_6_1 hG, G_6_2 hG, G_6_9 hG, G_6_10 hG, G_6_11 hG, G_6_12 hG, G_6_13 hG, G_7_0 hG, G_7_5 hG, G_8_8 hG, G_8_9 hG, G_9_8 hG, G_9_9 hG, G_10_7 hG, G_10_8 hG, G_10_9 hG, G_10_10 hG, G_10_11 hG, G_11_0 hG, G_12_2 hG, G_12_3 hG, G_12_4 hG, G_12_5 hG, G_12_7 hG, G_12_8 hG, G_12_9 hG, G_12_12 hG, G_12_13 hG, G_12_14 hG, G_12_22 hG, G_12_23 hG, G_12_29 hG, G_12_30 hG, G_12_31 hG, G_12_37 hG, G_12_38 hG, G_12_39 hG, G_12_40 hG, G_12_41 hG, G_12_43 hG, G_12_46 hG, G_12_47 hG, G_12_48 hG, G_25 hG, G_26 hG, G_47 hG, G_58 hG, n32_add, n32_mul, n32_lt, n32_le, n32_eq, n32_clamp, n32_inT, n32_div, n32_rem, n32_m1, n32_m1', n32_m1lt, n32_ltm1, n32_10, n32_01, Nat.not_lt_zero, Nat.lt_irrefl, Nat.mul_zero, Nat.zero_mul, Nat.zero_add, Nat.add_zero, Nat.reduceEqDiff, Nat.one_ne_zero, Nat.zero_ne_one, ax_psh_none, ax_psh_some, true_and, and_true, and_false, false_and, not_true_eq_false, not_false_eq_true, true_imp_iff, false_imp_iff, imp_self, or_true, true_or, or_false, false_or, and_self, ite_true, ite_false, if_true, if_false]
    refine ih _ ?_ ?_ ?_ ?_
    · intro s a j q
      rw [wI_at, if_neg (by omega), wI_at, if_neg (by omega)]
      exact f1 s a j q
    · intro j q1 q2 q3
      rw [wI_at, if_neg (by omega), wI_at, if_neg (by omega)]
      exact f2 j q1 q2 q3
    · rw [wI_at, if_neg (by omega), wI_at, if_neg (by omega), f3]
    · intro c hc
      by_cases z : c = i
      · subst z
        constructor
        · rw [wI_at, if_neg (by omega), wI_at, if_pos ⟨rfl, rfl, by omega⟩]
        · rw [wI_at, if_pos ⟨rfl, rfl, by omega⟩]
      · constructor
        · rw [wI_at, if_neg (by omega), wI_at, if_neg (by omega)]
          exact (f4 c (by omega)).1
        · rw [wI_at, if_neg (by omega), wI_at, if_neg (by omega)]
          exact (f4 c (by omega)).2
  · intro gi1 f1 f2 f3 f4
    have e15 : gi1 12 0 15 = n32 N := (f1 12 0 15 (by omega)).trans h15
    have e797 : gi1 64 0 797 = n32 m := (f2 797 (by omega) (by omega) (by omega)).trans k797
    rw [b_M_law_64]
    simp (disch := omega) only [b_M_law_122, b_M_law_139, e15, e797, c_M_good, G_0_0 hG, G_0_1 hG, G_0_2 hG, G_0_3 hG, G_0_7 hG, G_0_10 hG, G_0_12 hG, G_0_13 hG, G_0_14 hG, G_0_15 hG, G_0_16 hG, G_0_17 hG, G_1_0 hG, G_1_2 hG, G_1_5 hG, G_2_4 hG, G_2_5 hG, G_3_5 hG, G_3_6 hG, G_3_7 hG, G_3_8 hG, G_3_9 hG, G_5_0 hG, G_5_1 hG, G_6_0 hG, G_6_1 hG, G_6_2 hG, G_6_9 hG, G_6_10 hG, G_6_11 hG, G_6_12 hG, G_6_13 hG, G_7_0 hG, G_7_5 hG, G_8_8 hG, G_8_9 hG, G_9_8 hG, G_9_9 hG, G_10_7 hG, G_10_8 hG, G_10_9 hG, G_10_10 hG, G_10_11 hG, G_11_0 hG, G_12_2 hG, G_12_3 hG, G_12_4 hG, G_12_5 hG, G_12_7 hG, G_12_8 hG, G_12_9 hG, G_12_12 hG, G_12_13 hG, G_12_14 hG, G_12_22 hG, G_12_23 hG, G_12_29 hG, G_12_30 hG, G_12_31 hG, G_12_37 hG, G_12_38 hG, G_12_39 hG, G_12_40 hG, G_12_41 hG, G_12_43 hG, G_12_46 hG, G_12_47 hG, G_12_48 hG, G_25 hG, G_26 hG, G_47 hG, G_58 hG, n32_add, n32_mul, n32_lt, n32_le, n32_eq, n32_clamp, n32_inT, n32_div, n32_rem, n32_m1, n32_m1', n32_m1lt, n32_ltm1, n32_10, n32_01, Nat.not_lt_zero, Nat.lt_irrefl, Nat.mul_zero, Nat.zero_mul, Nat.zero_add, Nat.add_zero, Nat.reduceEqDiff, Nat.one_ne_zero, Nat.zero_ne_one, ax_psh_none, ax_psh_some, true_and, and_true, and_false, false_and, not_true_eq_false, not_false_eq_true, true_imp_iff, false_imp_iff, imp_self, or_true, true_or, or_false, false_or, and_self, ite_true, ite_false, if_true, if_false]
    refine hq _ ?_ ?_ ?_ ?_ ?_
    · intro s a j q
      rw [wI_at, if_neg (by omega)]
      exact f1 s a j q
    · intro j q0 q1 q2 q3
      rw [wI_at, if_neg (by omega)]
      exact f2 j q1 q2 q3
    · rw [wI_self]
    · rw [wI_at, if_neg (by omega), f3]
    · intro i hi
      rw [wI_at, if_neg (by omega), wI_at, if_neg (by omega)]
      exact f4 i hi
set_option maxRecDepth 100000 in
theorem op_law : Op m_S_law m_M_law [] := by
  intro D n gi g Ls Q hD hn hC hQ
  obtain ⟨d, rfl⟩ : ∃ d2, D = d2 + 50 := ⟨D - 50, by omega⟩
  have hG := hC.1.1
  have hSt := hC.1.2.1
  have hW := hC.1.2.2.1
  obtain ⟨nt, m, hN, hTh, hLw⟩ := hC.2.1
  have hN0 := hN
  obtain ⟨n6, m6, k796, k797, b1, b3, b4, hfo, hte, hte2⟩ := hN
  obtain ⟨len, v, dd, B, hv, hM⟩ := hC.2.2.2.2.2
  have hM0 := hM
  obtain ⟨⟨a1, a2, a3⟩, ⟨m1, m2, m3⟩, hM3, ⟨e1, e2⟩, ⟨d1, d2, d3, d4⟩, t1, t2⟩ := hM
  have e13 : ∀ v, ax_wI gi 0 0 4 v 1 0 3 = n32 m := fun v => by rw [wI_ne (by decide), b3]
  by_cases hm6 : m = 6
  · have h6 : ¬ m < 6 := by omega
    have e797 : refC (ax_wI gi 0 0 4 (n32 0)) (-5) 3 64 0 797 = n32 m := by rw [refC_ne (by decide) (by decide), wI_ne (by decide), k797]
    simp (disch := omega) only [e_S_law, b_S_law_0, b_S_law_24, b_S_law_30, a2, e13, h6, c_S_refuse3 _ _ _ _ hG, G_0_0 hG, G_0_1 hG, G_0_2 hG, G_0_3 hG, G_0_7 hG, G_0_10 hG, G_0_12 hG, G_0_13 hG, G_0_14 hG, G_0_15 hG, G_0_16 hG, G_0_17 hG, G_1_0 hG, G_1_2 hG, G_1_5 hG, G_2_4 hG, G_2_5 hG, G_3_5 hG, G_3_6 hG, G_3_7 hG, G_3_8 hG, G_3_9 hG, G_5_0 hG, G_5_1 hG, G_6_0 hG, G_6_1 hG, G_6_2 hG, G_6_9 hG, G_6_10 hG, G_6_11 hG, G_6_12 hG, G_6_13 hG, G_7_0 hG, G_7_5 hG, G_8_8 hG, G_8_9 hG, G_9_8 hG, G_9_9 hG, G_10_7 hG, G_10_8 hG, G_10_9 hG, G_10_10 hG, G_10_11 hG, G_11_0 hG, G_12_2 hG, G_12_3 hG, G_12_4 hG, G_12_5 hG, G_12_7 hG, G_12_8 hG, G_12_9 hG, G_12_12 hG, G_12_13 hG, G_12_14 hG, G_12_22 hG, G_12_23 hG, G_12_29 hG, G_12_30 hG, G_12_31 hG, G_12_37 hG, G_12_38 hG, G_12_39 hG, G_12_40 hG, G_12_41 hG, G_12_43 hG, G_12_46 hG, G_12_47 hG, G_12_48 hG, G_25 hG, G_26 hG, G_47 hG, G_58 hG, n32_add, n32_mul, n32_lt, n32_le, n32_eq, n32_clamp, n32_inT, n32_div, n32_rem, n32_m1, n32_m1', n32_m1lt, n32_ltm1, n32_10, n32_01, Nat.not_lt_zero, Nat.lt_irrefl, Nat.mul_zero, Nat.zero_mul, Nat.zero_add, Nat.add_zero, Nat.reduceEqDiff, Nat.one_ne_zero, Nat.zero_ne_one, ax_psh_none, ax_psh_some, true_and, and_true, and_false, false_and, not_true_eq_false, not_false_eq_true, true_imp_iff, false_imp_iff, imp_self, or_true, true_or, or_false, false_or, and_self, ite_true, ite_false, if_true, if_false]
    simp (disch := omega) only [e_M_law, b_M_law_0, b_M_law_13, b_M_law_24, e797, hm6, c_M_refuses3 _ _ _ _ hG, G_0_0 hG, G_0_1 hG, G_0_2 hG, G_0_3 hG, G_0_7 hG, G_0_10 hG, G_0_12 hG, G_0_13 hG, G_0_14 hG, G_0_15 hG, G_0_16 hG, G_0_17 hG, G_1_0 hG, G_1_2 hG, G_1_5 hG, G_2_4 hG, G_2_5 hG, G_3_5 hG, G_3_6 hG, G_3_7 hG, G_3_8 hG, G_3_9 hG, G_5_0 hG, G_5_1 hG, G_6_0 hG, G_6_1 hG, G_6_2 hG, G_6_9 hG, G_6_10 hG, G_6_11 hG, G_6_12 hG, G_6_13 hG, G_7_0 hG, G_7_5 hG, G_8_8 hG, G_8_9 hG, G_9_8 hG, G_9_9 hG, G_10_7 hG, G_10_8 hG, G_10_9 hG, G_10_10 hG, G_10_11 hG, G_11_0 hG, G_12_2 hG, G_12_3 hG, G_12_4 hG, G_12_5 hG, G_12_7 hG, G_12_8 hG, G_12_9 hG, G_12_12 hG, G_12_13 hG, G_12_14 hG, G_12_22 hG, G_12_23 hG, G_12_29 hG, G_12_30 hG, G_12_31 hG, G_12_37 hG, G_12_38 hG, G_12_39 hG, G_12_40 hG, G_12_41 hG, G_12_43 hG, G_12_46 hG, G_12_47 hG, G_12_48 hG, G_25 hG, G_26 hG, G_47 hG, G_58 hG, n32_add, n32_mul, n32_lt, n32_le, n32_eq, n32_clamp, n32_inT, n32_div, n32_rem, n32_m1, n32_m1', n32_m1lt, n32_ltm1, n32_10, n32_01, Nat.not_lt_zero, Nat.lt_irrefl, Nat.mul_zero, Nat.zero_mul, Nat.zero_add, Nat.add_zero, Nat.reduceEqDiff, Nat.one_ne_zero, Nat.zero_ne_one, ax_psh_none, ax_psh_some, true_and, and_true, and_false, false_and, not_true_eq_false, not_false_eq_true, true_imp_iff, false_imp_iff, imp_self, or_true, true_or, or_false, false_or, and_self, ite_true, ite_false, if_true, if_false]
    rw [refC_wI (by decide) (by decide)]
    have fo : ∀ s a j, ¬ (s = 0 ∧ a = 0 ∧ j = 4) → ¬ (s = 12 ∧ a = 0 ∧ j = 10) → ax_wI (ax_wI gi 0 0 4 (n32 0)) 12 0 10 (n32 0) s a j = gi s a j := fun s a j q1 q2 => by
      rw [wI_at, if_neg q2, wI_at, if_neg q1]
    have x4 : ax_wI (ax_wI gi 0 0 4 (n32 0)) 12 0 10 (n32 0) 0 0 4 = n32 0 := by rw [wI_ne (by decide), wI_self]
    have x10 : ax_wI (ax_wI gi 0 0 4 (n32 0)) 12 0 10 (n32 0) 12 0 10 = n32 0 := by rw [wI_self]
    generalize ax_wI (ax_wI gi 0 0 4 (n32 0)) 12 0 10 (n32 0) = gi1 at *
    refine ref_end hC hQ (gi1 := gi1) (fun s a j q1 q2 q3 _ _ _ _ _ _ _ _ _ => fo s a j (by omega) (by omega)) (fun s a j q => fo s a j (by omega) (by omega)) (fo 0 0 9 (by omega) (by omega)) (fo 12 0 1 (by omega) (by omega)) ⟨0, v, dd, B, by omega, ⟨by omega, x4, x10⟩, ⟨?_, ?_, ?_⟩, ⟨?_, ?_, ?_, ?_, ?_⟩, ⟨?_, ?_⟩, ⟨d1, ?_, ?_, fun i hi => ?_⟩, fun i hi => ?_, fun i hi => ?_⟩ (by omega)
    · rw [fo 0 0 5 (by omega) (by omega), fo 12 0 11 (by omega) (by omega), m1]
    · rw [fo 0 0 6 (by omega) (by omega), fo 12 0 6 (by omega) (by omega), m2]
    · rw [fo 0 0 8 (by omega) (by omega), fo 12 0 0 (by omega) (by omega), m3]
    · rw [fo 23 0 _ (by omega) (by omega), fo 63 0 _ (by omega) (by omega), hM3.1]
    · rw [fo 23 0 _ (by omega) (by omega), fo 63 0 _ (by omega) (by omega), hM3.2.1]
    · rw [fo 23 0 _ (by omega) (by omega), fo 63 0 _ (by omega) (by omega), hM3.2.2.1]
    · rw [fo 23 0 _ (by omega) (by omega), fo 63 0 _ (by omega) (by omega), hM3.2.2.2.1]
    · rw [fo 23 0 _ (by omega) (by omega), fo 63 0 _ (by omega) (by omega), hM3.2.2.2.2]
    · rw [fo 0 0 9 (by omega) (by omega), e1]
    · rw [fo 12 0 1 (by omega) (by omega), e2]
    · rw [fo 0 0 11 (by omega) (by omega), d2]
    · rw [fo 12 0 49 (by omega) (by omega), d3]
    · rw [fo 24 0 i (by omega) (by omega), fo 85 0 i (by omega) (by omega), d4 i hi]
    · rw [fo 22 0 i (by omega) (by omega)]
      exact t1 i hi
    · rw [fo 68 0 i (by omega) (by omega)]
      exact t2 i hi
  · have h6 : m < 6 := by omega
    obtain ⟨qq, hGN⟩ := hC.1.2.2.2.2.1
    have w0 : ∀ s a j, ¬ (s = 0 ∧ a = 0 ∧ j = 4) → ax_wI gi 0 0 4 (n32 0) s a j = gi s a j := fun s a j q => by rw [wI_at, if_neg q]
    have w4 : ax_wI gi 0 0 4 (n32 0) 0 0 4 = n32 0 := wI_self _ _ _ _ _
    rw [e_S_law, b_S_law_0]
    simp (disch := omega) only [b_S_law_31, a2, e13, h6, G_0_0 hG, G_0_1 hG, G_0_2 hG, G_0_3 hG, G_0_7 hG, G_0_10 hG, G_0_12 hG, G_0_13 hG, G_0_14 hG, G_0_15 hG, G_0_16 hG, G_0_17 hG, G_1_0 hG, G_1_2 hG, G_1_5 hG, G_2_4 hG, G_2_5 hG, G_3_5 hG, G_3_6 hG, G_3_7 hG, G_3_8 hG, G_3_9 hG, G_5_0 hG, G_5_1 hG, G_6_0 hG, G_6_1 hG, G_6_2 hG, G_6_9 hG, G_6_10 hG, G_6_11 hG, G_6_12 hG, G_6_13 hG, G_7_0 hG, G_7_5 hG, G_8_8 hG, G_8_9 hG, G_9_8 hG, G_9_9 hG, G_10_7 hG, G_10_8 hG, G_10_9 hG, G_10_10 hG, G_10_11 hG, G_11_0 hG, G_12_2 hG, G_12_3 hG, G_12_4 hG, G_12_5 hG, G_12_7 hG, G_12_8 hG, G_12_9 hG, G_12_12 hG, G_12_13 hG, G_12_14 hG, G_12_22 hG, G_12_23 hG, G_12_29 hG, G_12_30 hG, G_12_31 hG, G_12_37 hG, G_12_38 hG, G_12_39 hG, G_12_40 hG, G_12_41 hG, G_12_43 hG, G_12_46 hG, G_12_47 hG, G_12_48 hG, G_25 hG, G_26 hG, G_47 hG, G_58 hG, n32_add, n32_mul, n32_lt, n32_le, n32_eq, n32_clamp, n32_inT, n32_div, n32_rem, n32_m1, n32_m1', n32_m1lt, n32_ltm1, n32_10, n32_01, Nat.not_lt_zero, Nat.lt_irrefl, Nat.mul_zero, Nat.zero_mul, Nat.zero_add, Nat.add_zero, Nat.reduceEqDiff, Nat.one_ne_zero, Nat.zero_ne_one, ax_psh_none, ax_psh_some, true_and, and_true, and_false, false_and, not_true_eq_false, not_false_eq_true, true_imp_iff, false_imp_iff, imp_self, or_true, true_or, or_false, false_or, and_self, ite_true, ite_false, if_true, if_false]
    generalize ax_wI gi 0 0 4 (n32 0) = gi1 at *
    refine c_read (d := d + 49) (q := qq) (B := B) (by omega) hG (StrOK_of hSt (fun a j => w0 101 a j (by omega)) (fun a j => w0 103 a j (by omega)) (fun a j => rfl) (fun a => rfl)) (fun i hi => by rw [w0 22 0 i (by omega)]; exact t1 i hi) (fun i hi => (t1 i (by omega)).2) a1 hGN ?_ ?_
    · intro f gi2 hf fr h66
      have r2 : ∀ s a j, s ≠ 6 → ¬ (31 ≤ s ∧ s ≤ 38) → ¬ (s = 0 ∧ a = 0 ∧ j = 4) → gi2 s a j = gi s a j := fun s a j q1 q2 q3 => (fr s a j (rdAll_no q1 q2)).trans (w0 s a j q3)
      have r24 : gi2 0 0 4 = n32 0 := (fr 0 0 4 rfl).trans w4
      simp (disch := omega) only [b_S_law_43a, b_S_law_59, b_S_law_65, h66, c_S_refuse4 _ _ _ _ hG, G_0_0 hG, G_0_1 hG, G_0_2 hG, G_0_3 hG, G_0_7 hG, G_0_10 hG, G_0_12 hG, G_0_13 hG, G_0_14 hG, G_0_15 hG, G_0_16 hG, G_0_17 hG, G_1_0 hG, G_1_2 hG, G_1_5 hG, G_2_4 hG, G_2_5 hG, G_3_5 hG, G_3_6 hG, G_3_7 hG, G_3_8 hG, G_3_9 hG, G_5_0 hG, G_5_1 hG, G_6_0 hG, G_6_1 hG, G_6_2 hG, G_6_9 hG, G_6_10 hG, G_6_11 hG, G_6_12 hG, G_6_13 hG, G_7_0 hG, G_7_5 hG, G_8_8 hG, G_8_9 hG, G_9_8 hG, G_9_9 hG, G_10_7 hG, G_10_8 hG, G_10_9 hG, G_10_10 hG, G_10_11 hG, G_11_0 hG, G_12_2 hG, G_12_3 hG, G_12_4 hG, G_12_5 hG, G_12_7 hG, G_12_8 hG, G_12_9 hG, G_12_12 hG, G_12_13 hG, G_12_14 hG, G_12_22 hG, G_12_23 hG, G_12_29 hG, G_12_30 hG, G_12_31 hG, G_12_37 hG, G_12_38 hG, G_12_39 hG, G_12_40 hG, G_12_41 hG, G_12_43 hG, G_12_46 hG, G_12_47 hG, G_12_48 hG, G_25 hG, G_26 hG, G_47 hG, G_58 hG, n32_add, n32_mul, n32_lt, n32_le, n32_eq, n32_clamp, n32_inT, n32_div, n32_rem, n32_m1, n32_m1', n32_m1lt, n32_ltm1, n32_10, n32_01, Nat.not_lt_zero, Nat.lt_irrefl, Nat.mul_zero, Nat.zero_mul, Nat.zero_add, Nat.add_zero, Nat.reduceEqDiff, Nat.one_ne_zero, Nat.zero_ne_one, ax_psh_none, ax_psh_some, true_and, and_true, and_false, false_and, not_true_eq_false, not_false_eq_true, true_imp_iff, false_imp_iff, imp_self, or_true, true_or, or_false, false_or, and_self, ite_true, ite_false, if_true, if_false]
      have c0 : ∀ s a j, s ≠ 6 → ¬ (31 ≤ s ∧ s ≤ 38) → ¬ (s = 0 ∧ a = 0 ∧ (j = 4 ∨ j = 5 ∨ j = 8)) → s ≠ 23 → refC (ax_wI gi2 0 0 5 (n32 (lxP (lx B len) len f))) (-6) 4 s a j = gi s a j := fun s a j q1 q2 q3 q4 => by
        rw [refC_at, if_neg (by omega), if_neg (by omega), wI_at, if_neg (by omega)]
        exact r2 s a j q1 q2 (by omega)
      have c04 : refC (ax_wI gi2 0 0 5 (n32 (lxP (lx B len) len f))) (-6) 4 0 0 4 = n32 0 := by
        rw [refC_at, if_neg (by omega), if_neg (by omega), wI_at, if_neg (by omega), r24]
      have c05 : refC (ax_wI gi2 0 0 5 (n32 (lxP (lx B len) len f))) (-6) 4 0 0 5 = n32 (lxP (lx B len) len f) := by
        rw [refC_at, if_neg (by omega), if_neg (by omega), wI_self]
      have c08 : refC (ax_wI gi2 0 0 5 (n32 (lxP (lx B len) len f))) (-6) 4 0 0 8 = -6 := by
        rw [refC_at, if_neg (by omega), if_pos ⟨rfl, rfl, rfl⟩]
      have c23 : ∀ j, refC (ax_wI gi2 0 0 5 (n32 (lxP (lx B len) len f))) (-6) 4 23 0 j = if j = 4 then gi 23 0 4 + n32 1 else gi 23 0 j := fun j => by
        rw [refC_at]
        by_cases z : j = 4
        · rw [if_pos ⟨rfl, rfl, z⟩, if_pos z, wI_ne (by decide), r2 23 0 4 (by decide) (by omega) (by omega)]
        · rw [if_neg (by omega), if_neg (by omega), if_neg z, wI_ne (by decide), r2 23 0 j (by decide) (by omega) (by omega)]
      generalize refC (ax_wI gi2 0 0 5 (n32 (lxP (lx B len) len f))) (-6) 4 = gi3 at *
      have e797 : gi3 64 0 797 = n32 m := (c0 64 0 797 (by decide) (by omega) (by omega) (by decide)).trans k797
      have hm6' : ¬ m = 6 := hm6
      rw [e_M_law, b_M_law_0]
      simp (disch := omega) only [b_M_law_25, e797, hm6', G_0_0 hG, G_0_1 hG, G_0_2 hG, G_0_3 hG, G_0_7 hG, G_0_10 hG, G_0_12 hG, G_0_13 hG, G_0_14 hG, G_0_15 hG, G_0_16 hG, G_0_17 hG, G_1_0 hG, G_1_2 hG, G_1_5 hG, G_2_4 hG, G_2_5 hG, G_3_5 hG, G_3_6 hG, G_3_7 hG, G_3_8 hG, G_3_9 hG, G_5_0 hG, G_5_1 hG, G_6_0 hG, G_6_1 hG, G_6_2 hG, G_6_9 hG, G_6_10 hG, G_6_11 hG, G_6_12 hG, G_6_13 hG, G_7_0 hG, G_7_5 hG, G_8_8 hG, G_8_9 hG, G_9_8 hG, G_9_9 hG, G_10_7 hG, G_10_8 hG, G_10_9 hG, G_10_10 hG, G_10_11 hG, G_11_0 hG, G_12_2 hG, G_12_3 hG, G_12_4 hG, G_12_5 hG, G_12_7 hG, G_12_8 hG, G_12_9 hG, G_12_12 hG, G_12_13 hG, G_12_14 hG, G_12_22 hG, G_12_23 hG, G_12_29 hG, G_12_30 hG, G_12_31 hG, G_12_37 hG, G_12_38 hG, G_12_39 hG, G_12_40 hG, G_12_41 hG, G_12_43 hG, G_12_46 hG, G_12_47 hG, G_12_48 hG, G_25 hG, G_26 hG, G_47 hG, G_58 hG, n32_add, n32_mul, n32_lt, n32_le, n32_eq, n32_clamp, n32_inT, n32_div, n32_rem, n32_m1, n32_m1', n32_m1lt, n32_ltm1, n32_10, n32_01, Nat.not_lt_zero, Nat.lt_irrefl, Nat.mul_zero, Nat.zero_mul, Nat.zero_add, Nat.add_zero, Nat.reduceEqDiff, Nat.one_ne_zero, Nat.zero_ne_one, ax_psh_none, ax_psh_some, true_and, and_true, and_false, false_and, not_true_eq_false, not_false_eq_true, true_imp_iff, false_imp_iff, imp_self, or_true, true_or, or_false, false_or, and_self, ite_true, ite_false, if_true, if_false]
      refine c_reads (d := d + 49) (B := B) (by omega) hG (fun j hj => (c0 67 0 j (by decide) (by omega) (by omega) (by decide)).trans (hW j hj)) (fun i hi => by rw [c0 68 0 i (by decide) (by omega) (by omega) (by decide)]; exact t2 i hi) (fun i hi => (t1 i (by omega)).2) a1 ((c0 12 0 10 (by decide) (by omega) (by omega) (by decide)).trans a3) ?_ ?_
      · intro f' gi4 hf' fr4 h10 h11
        rw [hf] at hf'
        have hff : f = f' := Sum.inl.inj hf'
        subst hff
        simp (disch := omega) only [b_M_law_29, b_M_law_32, b_M_law_38, c_M_refuses4 _ _ _ _ hG, n32_add, n32_mul, n32_lt, n32_le, n32_eq, n32_clamp, n32_inT, n32_div, n32_rem, n32_m1, n32_m1', n32_m1lt, n32_ltm1, n32_10, n32_01, Nat.not_lt_zero, Nat.lt_irrefl, Nat.mul_zero, Nat.zero_mul, Nat.zero_add, Nat.add_zero, Nat.reduceEqDiff, Nat.one_ne_zero, Nat.zero_ne_one, ax_psh_none, ax_psh_some, true_and, and_true, and_false, false_and, not_true_eq_false, not_false_eq_true, true_imp_iff, false_imp_iff, imp_self, or_true, true_or, or_false, false_or, and_self, ite_true, ite_false, if_true, if_false]
        have k4 : ∀ s a j, ¬ (s = 12 ∧ (j = 10 ∨ j = 11 ∨ (15 ≤ j ∧ j ≤ 18))) → s ≠ 70 → s ≠ 71 → s ≠ 72 → gi4 s a j = gi3 s a j := fun s a j q1 q2 q3 q4 => fr4 s a j (rmAll_no q1 q2 q3 q4)
        have o : ∀ s a j, s ≠ 6 → ¬ (31 ≤ s ∧ s ≤ 38) → s ≠ 70 → s ≠ 71 → s ≠ 72 → s ≠ 23 → s ≠ 63 → ¬ (s = 0 ∧ a = 0 ∧ (j = 4 ∨ j = 5 ∨ j = 8)) → ¬ (s = 12 ∧ (j = 0 ∨ j = 10 ∨ j = 11 ∨ (15 ≤ j ∧ j ≤ 18))) → refM gi4 (-6) 6 s a j = gi s a j := fun s a j q1 q2 q3 q4 q5 q6 q7 q8 q9 => by
          rw [refM_at, if_neg (by omega), if_neg (by omega), k4 s a j (by omega) q3 q4 q5]
          exact c0 s a j q1 q2 q8 q6
        have x04 : refM gi4 (-6) 6 0 0 4 = n32 0 := by
          rw [refM_ne (by decide) (by decide), k4 0 0 4 (by omega) (by decide) (by decide) (by decide), c04]
        have x05 : refM gi4 (-6) 6 0 0 5 = n32 (lxP (lx B len) len f) := by
          rw [refM_ne (by decide) (by decide), k4 0 0 5 (by omega) (by decide) (by decide) (by decide), c05]
        have x08 : refM gi4 (-6) 6 0 0 8 = -6 := by
          rw [refM_ne (by decide) (by decide), k4 0 0 8 (by omega) (by decide) (by decide) (by decide), c08]
        have y0 : refM gi4 (-6) 6 12 0 0 = -6 := by
          rw [refM_at, if_neg (by omega), if_pos ⟨rfl, rfl, rfl⟩]
        have y10 : refM gi4 (-6) 6 12 0 10 = n32 0 := by
          rw [refM_at, if_neg (by omega), if_neg (by omega), h10]
        have y11 : refM gi4 (-6) 6 12 0 11 = n32 (lxP (lx B len) len f) := by
          rw [refM_at, if_neg (by omega), if_neg (by omega), h11]
        have x23 : ∀ j, refM gi4 (-6) 6 23 0 j = if j = 4 then gi 23 0 4 + n32 1 else gi 23 0 j := fun j => by
          rw [refM_ne (by decide) (by decide), k4 23 0 j (by omega) (by decide) (by decide) (by decide), c23]
        have x63 : ∀ j, refM gi4 (-6) 6 63 0 j = if j = 6 then gi 63 0 6 + n32 1 else gi 63 0 j := fun j => by
          rw [refM_at]
          by_cases z : j = 6
          · rw [if_pos ⟨rfl, rfl, z⟩, if_pos z, k4 63 0 6 (by omega) (by decide) (by decide) (by decide), c0 63 0 6 (by decide) (by omega) (by omega) (by decide)]
          · rw [if_neg (by omega), if_neg (by omega), if_neg z, k4 63 0 j (by omega) (by decide) (by decide) (by decide), c0 63 0 j (by decide) (by omega) (by omega) (by decide)]
        generalize refM gi4 (-6) 6 = gi5 at *
        have os : ∀ s a j, s ≠ 0 → s ≠ 12 → s ≠ 6 → ¬ (31 ≤ s ∧ s ≤ 38) → s ≠ 70 → s ≠ 71 → s ≠ 72 → s ≠ 23 → s ≠ 63 → gi5 s a j = gi s a j := fun s a j q1 q2 q3 q4 q5 q6 q7 q8 q9 => o s a j q3 q4 q5 q6 q7 q8 q9 (by omega) (by omega)
        have o12 : ∀ a j, ¬ (j = 0 ∨ j = 10 ∨ j = 11 ∨ (15 ≤ j ∧ j ≤ 18)) → gi5 12 a j = gi 12 a j := fun a j q => o 12 a j (by decide) (by omega) (by decide) (by decide) (by decide) (by decide) (by decide) (by omega) (by omega)
        have o0 : ∀ j, j ≠ 4 → j ≠ 5 → j ≠ 8 → gi5 0 0 j = gi 0 0 j := fun j q1 q2 q3 => o 0 0 j (by decide) (by omega) (by decide) (by decide) (by decide) (by decide) (by decide) (by omega) (by omega)
        obtain ⟨s, s1, s2⟩ := hC.2.2.2.2.1
        refine hQ _ gi5 g Ls (Core_mk hC (fun s a j q => os s a j (by omega) (by omega) (by omega) (by omega) (by omega) (by omega) (by omega) (by omega) (by omega)) (GF_refl hG) (BooksR_same hG hC.2.1 (fun s a j q => os s a j (by omega) (by omega) (by omega) (by omega) (by omega) (by omega) (by omega) (by omega) (by omega))) (fun t ht => PaperInv_of (hC.2.2.2.1 t ht) (fun j => os 3 t j (by decide) (by decide) (by decide) (by omega) (by decide) (by decide) (by decide) (by decide) (by decide)) (fun a j => os 59 a j (by decide) (by decide) (by decide) (by omega) (by decide) (by decide) (by decide) (by decide) (by decide))) ⟨s, by omega, Stamps_of s2 (os 7 0 4 (by decide) (by decide) (by decide) (by omega) (by decide) (by decide) (by decide) (by decide) (by decide)) (fun j => os 39 0 j (by decide) (by decide) (by decide) (by omega) (by decide) (by decide) (by decide) (by decide) (by decide))⟩ ⟨0, v, dd, B, by omega, ⟨by omega, x04, y10⟩, ⟨?_, ?_, ?_⟩, ⟨?_, ?_, ?_, ?_, ?_⟩, ⟨?_, ?_⟩, ⟨d1, ?_, ?_, fun i hi => ?_⟩, fun i hi => ?_, fun i hi => ?_⟩) ⟨fun s a j q => ?_, Or.inl ⟨o0 9 (by decide) (by decide) (by decide), o12 0 1 (by omega), fun j => os 64 0 j (by decide) (by decide) (by decide) (by omega) (by decide) (by decide) (by decide) (by decide) (by decide)⟩⟩ (Or.inr rfl)
        · rw [x05, y11]
        · rw [o0 6 (by decide) (by decide) (by decide), o12 0 6 (by omega), m2]
        · rw [x08, y0]
        · rw [x23, x63, if_neg (by decide), if_neg (by decide), hM3.1]
        · rw [x23, x63, if_neg (by decide), if_neg (by decide), hM3.2.1]
        · rw [x23, x63, if_neg (by decide), if_neg (by decide), hM3.2.2.1]
        · rw [x23, x63, if_neg (by decide), if_neg (by decide), hM3.2.2.2.1]
        · rw [x23, x63, if_pos rfl, if_pos rfl, hM3.2.2.2.2]
        · rw [o0 9 (by decide) (by decide) (by decide), e1]
        · rw [o12 0 1 (by omega), e2]
        · rw [o0 11 (by decide) (by decide) (by decide), d2]
        · rw [o12 0 49 (by omega), d3]
        · rw [os 24 0 i (by decide) (by decide) (by decide) (by omega) (by decide) (by decide) (by decide) (by decide) (by decide), os 85 0 i (by decide) (by decide) (by decide) (by omega) (by decide) (by decide) (by decide) (by decide) (by decide), d4 i hi]
        · rw [os 22 0 i (by decide) (by decide) (by decide) (by omega) (by decide) (by decide) (by decide) (by decide) (by decide)]
          exact t1 i hi
        · rw [os 68 0 i (by decide) (by decide) (by decide) (by omega) (by decide) (by decide) (by decide) (by decide) (by decide)]
          exact t2 i hi
        · have q' := srch_out q
          by_cases z : s = 12
          · subst z
            exact o12 a j (by omega)
          · exact os s a j (by omega) z (by omega) (by omega) (by omega) (by omega) (by omega) (by omega) (by omega)
      · intro L' gi4 hL'
        rw [hf] at hL'
        exact absurd hL' (by simp)
    · intro L gi2 g2 hL fr h66 hlg hobj
      have hG2 : GOK g2 := GOK_of hG (fun s a j q1 q2 q3 q4 _ => hlg.1 s a j q1 q2 q3 q4)
      have r2 : ∀ s a j, s ≠ 6 → ¬ (31 ≤ s ∧ s ≤ 38) → ¬ (s = 0 ∧ a = 0 ∧ j = 4) → ¬ (s = 4 ∧ a = qq) → ¬ (s = 60 ∧ a = qq) → ¬ (s = 61 ∧ a = qq) → ¬ (s = 62 ∧ 3 * qq ≤ a) → gi2 s a j = gi s a j := fun s a j q1 q2 q3 q4 q5 q6 q7 => (fr s a j (rdAll_no q1 q2) q4 q5 q6 q7).trans (w0 s a j q3)
      have r24 : gi2 0 0 4 = n32 0 := (fr 0 0 4 rfl (by omega) (by omega) (by omega) (by omega)).trans w4
      have r13 : ∀ v, ax_wI gi2 0 0 5 v 1 0 3 = n32 m := fun v => by rw [wI_ne (by decide), r2 1 0 3 (by decide) (by omega) (by omega) (by omega) (by omega) (by omega) (by omega), b3]
      have hrok : ax_rok 6 (some (4, qq)) := Or.inr ⟨qq, rfl⟩
      have g00 : ax_wR g2.1 27 0 m (some (4, qq)) 0 0 0 = some (1, 0) := by
        rw [wR_at, if_neg (by omega)]
        exact G_0_0 hG2 0
      simp (disch := omega) only [b_S_law_43b, b_S_law_66, b_S_law_94, h66, r13, hrok, g00, c_S_done, G_0_0 hG2, G_0_13 hG2, G_1_2 hG2, n32_add, n32_mul, n32_lt, n32_le, n32_eq, n32_clamp, n32_inT, n32_div, n32_rem, n32_m1, n32_m1', n32_m1lt, n32_ltm1, n32_10, n32_01, Nat.not_lt_zero, Nat.lt_irrefl, Nat.mul_zero, Nat.zero_mul, Nat.zero_add, Nat.add_zero, Nat.reduceEqDiff, Nat.one_ne_zero, Nat.zero_ne_one, ax_psh_none, ax_psh_some, true_and, and_true, and_false, false_and, not_true_eq_false, not_false_eq_true, true_imp_iff, false_imp_iff, imp_self, or_true, true_or, or_false, false_or, and_self, ite_true, ite_false, if_true, if_false]
      -- the heap that the class left
      obtain ⟨g3, eg3⟩ : ∃ g3 : AG, g3 = (ax_wR g2.1 27 0 m (some (4, qq)), g2.2) := ⟨_, rfl⟩
      have g3a : ∀ s a j, ¬ (s = 27 ∧ a = 0 ∧ j = m) → g3.1 s a j = g2.1 s a j := fun s a j q => by
        rw [eg3]
        show ax_wR g2.1 27 0 m _ s a j = _
        rw [wR_at, if_neg q]
      have g3b : g3.1 27 0 m = some (4, qq) := by
        rw [eg3]
        show ax_wR g2.1 27 0 m _ 27 0 m = _
        rw [wR_at, if_pos ⟨rfl, rfl, rfl⟩]
      have g3c : g3.2 = g2.2 := by rw [eg3]
      rw [← eg3]
      have hG3 : GOK g3 := GOK_of hG2 (fun s a j _ _ _ _ z => g3a s a j (by omega))
      have c0 : ∀ s a j, s ≠ 6 → ¬ (31 ≤ s ∧ s ≤ 38) → ¬ (s = 0 ∧ a = 0 ∧ (j = 4 ∨ j = 5 ∨ j = 8 ∨ j = 9)) → ¬ (s = 1 ∧ a = 0 ∧ j = 3) → ¬ (s = 4 ∧ a = qq) → ¬ (s = 60 ∧ a = qq) → ¬ (s = 61 ∧ a = qq) → ¬ (s = 62 ∧ 3 * qq ≤ a) → donC (ax_wI (ax_wI gi2 0 0 5 (-1)) 1 0 3 (n32 (m + 1))) s a j = gi s a j := fun s a j q1 q2 q3 q4 q5 q6 q7 q8 => by
        rw [donC_at, if_neg (by omega), if_neg (by omega), wI_at, if_neg (by omega), wI_at, if_neg (by omega)]
        exact r2 s a j q1 q2 (by omega) q5 q6 q7 q8
      have cL : ∀ s a j, s ≠ 0 → s ≠ 1 → donC (ax_wI (ax_wI gi2 0 0 5 (-1)) 1 0 3 (n32 (m + 1))) s a j = gi2 s a j := fun s a j q1 q2 => by
        rw [donC_ne q1, wI_ne q2, wI_ne q1]
      have c04 : donC (ax_wI (ax_wI gi2 0 0 5 (-1)) 1 0 3 (n32 (m + 1))) 0 0 4 = n32 0 := by
        rw [donC_at, if_neg (by omega), if_neg (by omega), wI_ne (by decide), wI_at, if_neg (by omega), r24]
      have c05 : donC (ax_wI (ax_wI gi2 0 0 5 (-1)) 1 0 3 (n32 (m + 1))) 0 0 5 = -1 := by
        rw [donC_at, if_neg (by omega), if_neg (by omega), wI_ne (by decide), wI_self]
      have c08 : donC (ax_wI (ax_wI gi2 0 0 5 (-1)) 1 0 3 (n32 (m + 1))) 0 0 8 = n32 0 := by
        rw [donC_at, if_neg (by omega), if_pos ⟨rfl, rfl, rfl⟩]
      have c09 : donC (ax_wI (ax_wI gi2 0 0 5 (-1)) 1 0 3 (n32 (m + 1))) 0 0 9 = gi 0 0 9 + n32 1 := by
        rw [donC_at, if_pos ⟨rfl, rfl, rfl⟩, wI_ne (by decide), wI_at, if_neg (by omega), r2 0 0 9 (by decide) (by omega) (by omega) (by omega) (by omega) (by omega) (by omega)]
      have c13 : donC (ax_wI (ax_wI gi2 0 0 5 (-1)) 1 0 3 (n32 (m + 1))) 1 0 3 = n32 (m + 1) := by
        rw [donC_ne (by decide), wI_self]
      generalize donC (ax_wI (ax_wI gi2 0 0 5 (-1)) 1 0 3 (n32 (m + 1))) = gi3 at *
      have e797 : gi3 64 0 797 = n32 m := (c0 64 0 797 (by decide) (by omega) (by omega) (by omega) (by omega) (by omega) (by omega) (by omega)).trans k797
      have hm6' : ¬ m = 6 := hm6
      rw [e_M_law, b_M_law_0]
      simp (disch := omega) only [b_M_law_25, e797, hm6', G_12_3 hG3, n32_add, n32_mul, n32_lt, n32_le, n32_eq, n32_clamp, n32_inT, n32_div, n32_rem, n32_m1, n32_m1', n32_m1lt, n32_ltm1, n32_10, n32_01, Nat.not_lt_zero, Nat.lt_irrefl, Nat.mul_zero, Nat.zero_mul, Nat.zero_add, Nat.add_zero, Nat.reduceEqDiff, Nat.one_ne_zero, Nat.zero_ne_one, ax_psh_none, ax_psh_some, true_and, and_true, and_false, false_and, not_true_eq_false, not_false_eq_true, true_imp_iff, false_imp_iff, imp_self, or_true, true_or, or_false, false_or, and_self, ite_true, ite_false, if_true, if_false]
      refine c_reads (d := d + 49) (B := B) (by omega) hG3 (fun j hj => (c0 67 0 j (by decide) (by omega) (by omega) (by omega) (by omega) (by omega) (by omega) (by omega)).trans (hW j hj)) (fun i hi => by rw [c0 68 0 i (by decide) (by omega) (by omega) (by omega) (by omega) (by omega) (by omega) (by omega)]; exact t2 i hi) (fun i hi => (t1 i (by omega)).2) a1 ((c0 12 0 10 (by decide) (by omega) (by omega) (by omega) (by omega) (by omega) (by omega) (by omega)).trans a3) ?_ ?_
      · intro f' gi4 hf'
        rw [hL] at hf'
        exact absurd hf' (by simp)
      · intro L' gi4 hL' fr4 h10 h11 h15 htk
        rw [hL] at hL'
        have hLL : L = L' := Sum.inr.inj hL'
        subst hLL
        have hNl : (lx B len).length ≤ 400 := Nat.le_trans lx_len a1
        have k4 : ∀ s a j, ¬ (s = 12 ∧ (j = 10 ∨ j = 11 ∨ (15 ≤ j ∧ j ≤ 18))) → s ≠ 70 → s ≠ 71 → s ≠ 72 → gi4 s a j = gi3 s a j := fun s a j q1 q2 q3 q4 => fr4 s a j (rmAll_no q1 q2 q3 q4)
        have e797' : gi4 64 0 797 = n32 m := (k4 64 0 797 (by omega) (by decide) (by decide) (by decide)).trans e797
        simp (disch := omega) only [b_M_law_29, n32_add, n32_mul, n32_lt, n32_le, n32_eq, n32_clamp, n32_inT, n32_div, n32_rem, n32_m1, n32_m1', n32_m1lt, n32_ltm1, n32_10, n32_01, Nat.not_lt_zero, Nat.lt_irrefl, Nat.mul_zero, Nat.zero_mul, Nat.zero_add, Nat.add_zero, Nat.reduceEqDiff, Nat.one_ne_zero, Nat.zero_ne_one, ax_psh_none, ax_psh_some, true_and, and_true, and_false, false_and, not_true_eq_false, not_false_eq_true, true_imp_iff, false_imp_iff, imp_self, or_true, true_or, or_false, false_or, and_self, ite_true, ite_false, if_true, if_false]
        refine c_M_law_ok (d := d + 48) hG3 h6 hNl e797' h15 _ _ ?_
        intro gi5 p1 p2 p797 pN pt
        have lok := lx_ok (B := B) (n := len) (fun i hi => (t1 i (by omega)).2)
        -- what is read at the end
        have o64 : ∀ j, j ≠ 797 → j ≠ 799 + m → ¬ (805 + 400 * m ≤ j ∧ j < 805 + 400 * m + 400) → ¬ (3205 + 400 * m ≤ j ∧ j < 3205 + 400 * m + 400) → donM gi5 64 0 j = gi 64 0 j := fun j q0 q1 q2 q3 => by
          rw [donM_ne (by decide), p2 j q0 q1 q2 q3, k4 64 0 j (by omega) (by decide) (by decide) (by decide)]
          exact c0 64 0 j (by decide) (by omega) (by omega) (by omega) (by omega) (by omega) (by omega) (by omega)
        have o3 : ∀ s a j, s ≠ 12 → s ≠ 64 → s ≠ 70 → s ≠ 71 → s ≠ 72 → donM gi5 s a j = gi3 s a j := fun s a j q1 q2 q3 q4 q5 => by
          rw [donM_ne q1, p1 s a j (by omega), k4 s a j (by omega) q3 q4 q5]
        have o12 : ∀ a j, ¬ (j = 0 ∨ j = 1 ∨ j = 10 ∨ j = 11 ∨ (15 ≤ j ∧ j ≤ 18)) → donM gi5 12 a j = gi 12 a j := fun a j q => by
          rw [donM_at, if_neg (by omega), if_neg (by omega), p1 12 a j (by omega), k4 12 a j (by omega) (by decide) (by decide) (by decide)]
          exact c0 12 a j (by decide) (by omega) (by omega) (by omega) (by omega) (by omega) (by omega) (by omega)
        have y0 : donM gi5 12 0 0 = n32 0 := by
          rw [donM_at, if_neg (by omega), if_pos ⟨rfl, rfl, rfl⟩]
        have y1 : donM gi5 12 0 1 = gi 12 0 1 + n32 1 := by
          rw [donM_at, if_pos ⟨rfl, rfl, rfl⟩, p1 12 0 1 (by omega), k4 12 0 1 (by omega) (by decide) (by decide) (by decide), c0 12 0 1 (by decide) (by omega) (by omega) (by omega) (by omega) (by omega) (by omega) (by omega)]
        have y10 : donM gi5 12 0 10 = n32 0 := by
          rw [donM_at, if_neg (by omega), if_neg (by omega), p1 12 0 10 (by omega), h10]
        have y11 : donM gi5 12 0 11 = -1 := by
          rw [donM_at, if_neg (by omega), if_neg (by omega), p1 12 0 11 (by omega), h11]
        have x797 : donM gi5 64 0 797 = n32 (m + 1) := (donM_ne (by decide) 0 797).trans p797
        have xN : donM gi5 64 0 (799 + m) = n32 (lx B len).length := (donM_ne (by decide) 0 _).trans pN
        have xt : ∀ i, i < (lx B len).length → donM gi5 64 0 (805 + (400 * m + i)) = n32 (lxC (lx B len) i) ∧ (lxC (lx B len) i = 50 → lxV (lx B len) i ≤ 1000 → donM gi5 64 0 (3205 + (400 * m + i)) = n32 (lxV (lx B len) i)) := fun i hi => by
          rw [donM_ne (by decide), donM_ne (by decide), (pt i hi).1, (pt i hi).2]
          exact htk i hi
        generalize donM gi5 = gi6 at *
        have o : ∀ s a j, s ≠ 0 → s ≠ 12 → s ≠ 64 → s ≠ 70 → s ≠ 71 → s ≠ 72 → s ≠ 6 → ¬ (31 ≤ s ∧ s ≤ 38) → ¬ (s = 1 ∧ a = 0 ∧ j = 3) → ¬ (s = 4 ∧ a = qq) → ¬ (s = 60 ∧ a = qq) → ¬ (s = 61 ∧ a = qq) → ¬ (s = 62 ∧ 3 * qq ≤ a) → gi6 s a j = gi s a j := fun s a j q0 q1 q2 q3 q4 q5 q6 q7 q8 q9 q10 q11 q12 => (o3 s a j q1 q2 q3 q4 q5).trans (c0 s a j q6 q7 (by omega) q8 q9 q10 q11 q12)
        have o0 : ∀ j, j ≠ 4 → j ≠ 5 → j ≠ 8 → j ≠ 9 → gi6 0 0 j = gi 0 0 j := fun j q1 q2 q3 q4 => (o3 0 0 j (by decide) (by decide) (by decide) (by decide) (by decide)).trans (c0 0 0 j (by decide) (by omega) (by omega) (by omega) (by omega) (by omega) (by omega) (by omega))
        have oK : ∀ s a j, s = 100 ∨ s = 101 ∨ s = 103 ∨ s = 67 ∨ s = 3 ∨ s = 59 ∨ s = 7 ∨ s = 39 ∨ s = 65 ∨ s = 66 ∨ s = 28 ∨ s = 2 ∨ s = 29 ∨ s = 30 ∨ (s = 1 ∧ ¬ (a = 0 ∧ j = 3)) ∨ s = 23 ∨ s = 63 ∨ s = 24 ∨ s = 85 ∨ s = 22 ∨ s = 68 → gi6 s a j = gi s a j := fun s a j q => o s a j (by omega) (by omega) (by omega) (by omega) (by omega) (by omega) (by omega) (by omega) (by omega) (by omega) (by omega) (by omega) (by omega)
        obtain ⟨lg1, lg2, lg3, lg4, lg5, lg6⟩ := hlg
        have hq4 : g.2.1 4 = qq := hGN.1
        have lawp : ∀ q l, q < g.2.1 4 → LawObj gi g q l → LawObj gi6 g3 q l := fun q l hql ho => by
          rw [hq4] at hql
          refine LawObj_g ho (fun j => ?_) (fun j => ?_) (fun j => ?_) (fun a j ha => ?_) (fun j => ?_) ?_ ?_ (fun a ha => ?_)
          · exact o 4 q j (by decide) (by decide) (by decide) (by decide) (by decide) (by decide) (by decide) (by omega) (by omega) (by omega) (by omega) (by omega) (by omega)
          · exact o 60 q j (by decide) (by decide) (by decide) (by decide) (by decide) (by decide) (by decide) (by omega) (by omega) (by omega) (by omega) (by omega) (by omega)
          · exact o 61 q j (by decide) (by decide) (by decide) (by decide) (by decide) (by decide) (by decide) (by omega) (by omega) (by omega) (by omega) (by omega) (by omega)
          · exact o 62 a j (by decide) (by decide) (by decide) (by decide) (by decide) (by decide) (by decide) (by omega) (by omega) (by omega) (by omega) (by omega) (by omega)
          · rw [g3a 4 q j (by omega)]
            exact lg2 q j (by omega)
          · rw [g3c]
            exact lg3 60 q (by decide) (by omega) (by omega) (by omega)
          · rw [g3c]
            exact lg3 61 q (by decide) (by omega) (by omega) (by omega)
          · rw [g3c]
            exact lg3 62 a (by decide) (by omega) (by omega) (by omega)
        have hle : g.2.1 4 ≤ g3.2.1 4 := by
          rw [g3c, hq4, lg4.1.1]
          omega
        obtain ⟨⟨-, -, -, hSs, -, hR1, hR2⟩, hB, ⟨⟨hI0, hI1⟩, hI⟩, hP, ⟨s, s1, s2⟩, -⟩ := hC
        have e9 : gi6 0 0 9 = gi 0 0 9 + n32 1 := (o3 0 0 9 (by decide) (by decide) (by decide) (by decide) (by decide)).trans c09
        have gs : ∀ s a j, s ≠ 4 → s ≠ 60 → s ≠ 61 → s ≠ 62 → ¬ (s = 27 ∧ a = 0 ∧ j = m) → g3.1 s a j = g.1 s a j := fun s a j q1 q2 q3 q4 q5 => (g3a s a j q5).trans (lg1 s a j q1 q2 q3 q4)
        refine hQ _ gi6 g3 (fun l => if l = m then L else Ls l) ⟨⟨hG3, StrOK_of hSt (fun a j => oK 101 a j (by omega)) (fun a j => oK 103 a j (by omega)) (fun a j => gs 101 a j (by decide) (by decide) (by decide) (by decide) (by omega)) (fun a => by rw [g3c]; exact lg3 103 a (by decide) (by omega) (by omega) (by omega)), fun j hj => (oK 67 0 j (by omega)).trans (hW j hj), ?_, ⟨⟨qq + 1, by unfold GN at *; rw [g3c]; exact lg4.1⟩, by rw [g3c]; omega, by rw [g3c]; omega⟩⟩, ?_, ⟨⟨fun r l q2 => ?_, BkS_of hI1 (fun j => gs 20 0 j (by decide) (by decide) (by decide) (by decide) (by omega)) (fun s q => by rw [g3c]; exact lg4.2 s (by omega) (by omega) (by omega) (by omega))⟩, fun k hk => ?_⟩, fun t ht => PaperInv_of (hP t ht) (fun j => oK 3 t j (by omega)) (fun a j => oK 59 a j (by omega)), ⟨s, by omega, Stamps_of s2 (oK 7 0 4 (by omega)) (fun j => oK 39 0 j (by omega))⟩, 0, v + 1, dd, B, by omega, ⟨by omega, (o3 0 0 4 (by decide) (by decide) (by decide) (by decide) (by decide)).trans c04, y10⟩, ⟨?_, ?_, ?_⟩, ⟨?_, ?_, ?_, ?_, ?_⟩, ⟨?_, ?_⟩, ⟨d1, ?_, ?_, fun i hi => ?_⟩, fun i hi => ?_, fun i hi => ?_⟩ ⟨fun s a j q => ?_, Or.inr e9⟩ (Or.inl e9)
        · unfold StatOK at *
          rw [oK 100 1 0 (by omega), oK 100 1 1 (by omega), oK 100 1 2 (by omega), oK 100 1 3 (by omega), oK 100 2 0 (by omega), oK 100 2 1 (by omega), oK 100 2 2 (by omega), oK 100 2 3 (by omega)]
          exact hSs
        · refine ⟨nt, m + 1, ⟨n6, by omega, (o64 796 (by omega) (by omega) (by omega) (by omega)).trans k796, x797, (oK 1 0 1 (by omega)).trans b1, (o3 1 0 3 (by decide) (by decide) (by decide) (by decide) (by decide)).trans c13, ?_, ?_, TermOK_of hte (fun j q1 q2 => o64 j (by omega) (by omega) (by omega) (by omega)), fun i hi => ?_⟩, ThingsR_fr hTh n6 (fun j q => o64 j (by omega) (by omega) (by omega) (by omega)) (fun s a j q _ _ => oK s a j (by omega)), fun l hl => ?_⟩
          · rw [oK 1 0 4 (by omega), o64 798 (by omega) (by omega) (by omega) (by omega), b4]
          · rw [o64 798 (by omega) (by omega) (by omega) (by omega)]
            rcases hfo with z | ⟨f, z1, z2⟩
            · exact Or.inl z
            · exact Or.inr ⟨f, by omega, z2⟩
          · rw [oK 28 0 i (by omega), o64 _ (by omega) (by omega) (by omega) (by omega)]
            exact hte2 i hi
          · by_cases z : l = m
            · subst z
              simp only [if_true]
              refine ⟨⟨lxC (lx B len), lxV (lx B len), (lx B len).length, hNl, fun a ha => (lx_out (n := len) ha).1, xN, fun i hi => ⟨(xt i hi).1, ?_, (xt i hi).2⟩, hL⟩, qq, g3b, ?_, ?_⟩
              · have := (lx_get lok hi).1
                omega
              · rw [g3c, lg4.1.1]
                omega
              · refine LawObj_g hobj (fun j => ?_) (fun j => ?_) (fun j => ?_) (fun a j _ => ?_) (fun j => ?_) ?_ ?_ (fun a _ => ?_)
                · exact (o3 4 qq j (by decide) (by decide) (by decide) (by decide) (by decide)).trans (cL 4 qq j (by decide) (by decide))
                · exact (o3 60 qq j (by decide) (by decide) (by decide) (by decide) (by decide)).trans (cL 60 qq j (by decide) (by decide))
                · exact (o3 61 qq j (by decide) (by decide) (by decide) (by decide) (by decide)).trans (cL 61 qq j (by decide) (by decide))
                · exact (o3 62 a j (by decide) (by decide) (by decide) (by decide) (by decide)).trans (cL 62 a j (by decide) (by decide))
                · exact g3a 4 qq j (by omega)
                · rw [g3c]
                · rw [g3c]
                · rw [g3c]
            · simp only [if_neg z]
              obtain ⟨q1, q, q2, q3, q4⟩ := hLw l (by omega)
              refine ⟨?_, q, (gs 27 0 l (by decide) (by decide) (by decide) (by decide) (by omega)).trans q2, Nat.lt_of_lt_of_le q3 hle, lawp q _ q3 q4⟩
              obtain ⟨c, v', N', z1, z2, z3, z4, z5⟩ := q1
              refine ⟨c, v', N', z1, z2, (o64 _ (by omega) (by omega) (by omega) (by omega)).trans z3, fun i hi => ?_, z5⟩
              rw [o64 _ (by omega) (by omega) (by omega) (by omega), o64 (3205 + (400 * l + i)) (by omega) (by omega) (by omega) (by omega)]
              exact z4 i hi
        · by_cases z : r = 0 ∧ l = m
          · obtain ⟨rfl, rfl⟩ := z
            exact Or.inr ⟨qq, g3b⟩
          · rw [gs 27 r l (by decide) (by decide) (by decide) (by decide) (by omega)]
            exact hI0 r l q2
        · refine ImOK_of (hI k hk) (oK 66 0 k (by omega)) (gs 20 0 k (by decide) (by decide) (by decide) (by decide) (by omega)) (by rw [g3c, lg4.2 1 (by decide) (by decide) (by decide) (by decide)]; exact Nat.le_refl _) (fun r Ls3 q1 _ _ q3 => ?_)
          exact Books_cp q3 (fun j hj => oK 65 0 _ (by omega)) (fun j hj => oK 1 _ j (by omega)) (fun j hj => oK 28 _ j (by omega)) (fun t i ht hi => oK 2 _ i (by omega)) (fun t c ht hc => ⟨oK 29 _ c (by omega), oK 30 _ c (by omega)⟩) (fun l hl => gs 27 _ l (by decide) (by decide) (by decide) (by decide) (by omega)) lawp hle
        · rw [o3 0 0 5 (by decide) (by decide) (by decide) (by decide) (by decide), c05, y11]
        · rw [o0 6 (by decide) (by decide) (by decide) (by decide), o12 0 6 (by omega), m2]
        · rw [o3 0 0 8 (by decide) (by decide) (by decide) (by decide) (by decide), c08, y0]
        · rw [oK 23 0 _ (by omega), oK 63 0 _ (by omega), hM3.1]
        · rw [oK 23 0 _ (by omega), oK 63 0 _ (by omega), hM3.2.1]
        · rw [oK 23 0 _ (by omega), oK 63 0 _ (by omega), hM3.2.2.1]
        · rw [oK 23 0 _ (by omega), oK 63 0 _ (by omega), hM3.2.2.2.1]
        · rw [oK 23 0 _ (by omega), oK 63 0 _ (by omega), hM3.2.2.2.2]
        · rw [e9, e1, n32_add]
        · rw [y1, e2, n32_add]
        · rw [o0 11 (by decide) (by decide) (by decide) (by decide), d2]
        · rw [o12 0 49 (by omega), d3]
        · rw [oK 24 0 i (by omega), oK 85 0 i (by omega), d4 i hi]
        · rw [oK 22 0 i (by omega)]
          exact t1 i hi
        · rw [oK 68 0 i (by omega)]
          exact t2 i hi
        · have q' := srch_out q
          by_cases z : s = 12
          · subst z
            exact o12 a j (by omega)
          · exact o s a j (by omega) z (by omega) (by omega) (by omega) (by omega) (by omega) (by omega) (by omega) (by omega) (by omega) (by omega) (by omega)
