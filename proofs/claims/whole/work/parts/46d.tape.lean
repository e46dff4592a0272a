/-! thing; the tape: end, feed -/
theorem wI_self (gi : GI) (s a j : Nat) (v : Int32) : ax_wI gi s a j v s a j = v := by
  rw [wI_at, if_pos ⟨rfl, rfl, rfl⟩]
theorem c_begin (d : Nat) {gi : GI} {g : AG} {Q : Option AV → AH → Prop} (hG : GOK g) {t : Nat} (x y z : Int32) : ax_call (d + 2) m_Thing_begin [.inr (.inr (some (2, t))), .inl x, .inl y, .inl z] (gi, g) Q = Q none (rowF (rowF (ax_wI (ax_wI (ax_wI (ax_wI gi 2 t 0 x) 2 t 1 y) 2 t 2 z) 2 t 3 (-1)) 29 t 64 (fun _ => n32 0)) 30 t 64 (fun _ => n32 0), g) := by
  simp only [e_Thing_begin, b_Thing_begin_0, b_Thing_begin_28, b_Thing_begin_36, c_fill29, c_fill30, G_0_0 hG, G_0_1 hG, G_0_2 hG, G_0_3 hG, G_0_7 hG, G_0_10 hG, G_0_12 hG, G_0_13 hG, G_0_14 hG, G_0_15 hG, G_0_16 hG, G_0_17 hG, G_1_0 hG, G_1_2 hG, G_1_5 hG, G_2_4 hG, G_2_5 hG, G_3_5 hG, G_3_6 hG, G_3_7 hG, G_3_8 hG, G_3_9 hG, G_5_0 hG, G_5_1 hG, G_6_0 hG, G_6_1 hG, G_6_2 hG, G_6_9 hG, G_6_10 hG, G_6_11 hG, G_6_12 hG, G_6_13 hG, G_7_0 hG, G_7_5 hG, G_8_8 hG, G_8_9 hG, G_9_8 hG, G_9_9 hG, G_10_7 hG, G_10_8 hG, G_10_9 hG, G_10_10 hG, G_10_11 hG, G_11_0 hG, G_12_2 hG, G_12_3 hG, G_12_4 hG, G_12_5 hG, G_12_7 hG, G_12_8 hG, G_12_9 hG, G_12_12 hG, G_12_13 hG, G_12_14 hG, G_12_22 hG, G_12_23 hG, G_12_29 hG, G_12_30 hG, G_12_31 hG, G_12_37 hG, G_12_38 hG, G_12_39 hG, G_12_40 hG, G_12_41 hG, G_12_43 hG, G_12_46 hG, G_12_47 hG, G_12_48 hG, G_25 hG, G_26 hG, G_47 hG, G_58 hG, ax_psh_none, ax_psh_some, true_and, and_true, and_false, false_and, not_true_eq_false, not_false_eq_true, true_imp_iff, false_imp_iff, imp_self, or_true, true_or, or_false, false_or, and_self, ite_true, ite_false, if_true, if_false]
theorem c_S_thing (d : Nat) {gi : GI} {g : AG} {Q : Option AV → AH → Prop} (hG : GOK g) {nt w u o : Nat} (b1 : gi 1 0 1 = n32 nt) (n6 : nt < 6) (hw : 1 ≤ w ∧ w ≤ 8) (hu : 1 ≤ u ∧ u ≤ 8) (ho : o ≤ 5) (hq : ∀ gi', FrK gi gi' → (∀ s a j, s = 28 ∨ s = 4 ∨ s = 60 ∨ s = 61 ∨ s = 62 ∨ ((s = 2 ∨ s = 29 ∨ s = 30) ∧ a ≠ nt) ∨ (s = 1 ∧ j ≠ 1) ∨ s = 64 → gi' s a j = gi s a j) → gi' 1 0 1 = n32 (nt + 1) → gi' 2 nt 0 = n32 w → gi' 2 nt 1 = n32 u → gi' 2 nt 2 = n32 o → gi' 2 nt 3 = -1 → (∀ c, c < 64 → gi' 29 nt c = n32 0 ∧ gi' 30 nt c = n32 0) → Q (some (.inl (n32 nt))) (donC gi', g)) : ax_call (d + 4) m_S_thing [.inr (.inr (some (0, 0))), .inl (n32 w), .inl (n32 u), .inl (n32 o)] (gi, g) Q := by
  have eb : ∀ x y z, rowF (rowF (ax_wI (ax_wI (ax_wI (ax_wI gi 2 nt 0 x) 2 nt 1 y) 2 nt 2 z) 2 nt 3 (-1)) 29 nt 64 (fun _ => n32 0)) 30 nt 64 (fun _ => n32 0) 1 0 1 = n32 nt := fun x y z => by
    rw [rowF_ne (by decide), rowF_ne (by decide), wI_ne (by decide), wI_ne (by decide), wI_ne (by decide), wI_ne (by decide), b1]
  simp (disch := omega) only [e_S_thing, b_S_thing_0, b_S_thing_7, b_S_thing_10, b_S_thing_17, b_S_thing_20, b_S_thing_26, b_S_thing_29, b_S_thing_34, b_S_thing_35, b_S_thing_51, b_S_thing_57, b_S_thing_58, b_S_thing_74, b_S_thing_93, c_S_within, win_T, b1, n6, c_begin _ hG, eb, c_S_done, G_0_0 hG, G_0_1 hG, G_0_2 hG, G_0_3 hG, G_0_7 hG, G_0_10 hG, G_0_12 hG, G_0_13 hG, G_0_14 hG, G_0_15 hG, G_0_16 hG, G_0_17 hG, G_1_0 hG, G_1_2 hG, G_1_5 hG, G_2_4 hG, G_2_5 hG, G_3_5 hG, G_3_6 hG, G_3_7 hG, G_3_8 hG, G_3_9 hG, G_5_0 hG, G_5_1 hG, G_6_0 hG, G_6_1 hG, G_6_2 hG, G_6_9 hG, G_6_10 hG, G_6_11 hG, G_6_12 hG, G_6_13 hG, G_7_0 hG, G_7_5 hG, G_8_8 hG, G_8_9 hG, G_9_8 hG, G_9_9 hG, G_10_7 hG, G_10_8 hG, G_10_9 hG, G_10_10 hG, G_10_11 hG, G_11_0 hG, G_12_2 hG, G_12_3 hG, G_12_4 hG, G_12_5 hG, G_12_7 hG, G_12_8 hG, G_12_9 hG, G_12_12 hG, G_12_13 hG, G_12_14 hG, G_12_22 hG, G_12_23 hG, G_12_29 hG, G_12_30 hG, G_12_31 hG, G_12_37 hG, G_12_38 hG, G_12_39 hG, G_12_40 hG, G_12_41 hG, G_12_43 hG, G_12_46 hG, G_12_47 hG, G_12_48 hG, G_25 hG, G_26 hG, G_47 hG, G_58 hG, n32_add, n32_mul, n32_lt, n32_le, n32_eq, n32_clamp, n32_inT, n32_div, n32_rem, n32_m1, n32_m1', n32_m1lt, n32_ltm1, n32_10, n32_01, Nat.not_lt_zero, Nat.lt_irrefl, Nat.mul_zero, Nat.zero_mul, Nat.zero_add, Nat.add_zero, Nat.reduceEqDiff, Nat.one_ne_zero, Nat.zero_ne_one, ax_psh_none, ax_psh_some, true_and, and_true, and_false, false_and, not_true_eq_false, not_false_eq_true, true_imp_iff, false_imp_iff, imp_self, or_true, true_or, or_false, false_or, and_self, ite_true, ite_false, if_true, if_false]
  refine hq _ ?_ ?_ ?_ ?_ ?_ ?_ ?_ ?_
  · refine FrK_wI (FrK_row (FrK_row (FrK_wI (FrK_wI (FrK_wI (FrK_wI (FrK_refl _) ?_) ?_) ?_) ?_) ?_) ?_) ?_ <;> omega
  · intro s a j q
    rw [wI_at, if_neg (by omega), rowF_at, if_neg (by omega), rowF_at, if_neg (by omega), wI_at, if_neg (by omega), wI_at, if_neg (by omega), wI_at, if_neg (by omega), wI_at, if_neg (by omega)]
  · rw [wI_self]
  · rw [wI_ne (by decide), rowF_ne (by decide), rowF_ne (by decide), wI_at, if_neg (by omega), wI_at, if_neg (by omega), wI_at, if_neg (by omega), wI_self]
  · rw [wI_ne (by decide), rowF_ne (by decide), rowF_ne (by decide), wI_at, if_neg (by omega), wI_at, if_neg (by omega), wI_self]
  · rw [wI_ne (by decide), rowF_ne (by decide), rowF_ne (by decide), wI_at, if_neg (by omega), wI_self]
  · rw [wI_ne (by decide), rowF_ne (by decide), rowF_ne (by decide), wI_self]
  · intro c hc
    constructor
    · rw [wI_ne (by decide), rowF_ne (by decide), rowF_at, if_pos ⟨rfl, rfl, hc⟩]
    · rw [wI_ne (by decide), rowF_at, if_pos ⟨rfl, rfl, hc⟩]
theorem c_M_thing (d : Nat) {gi : GI} {g : AG} {Q : Option AV → AH → Prop} (hG : GOK g) {nt w u o : Nat} (k796 : gi 64 0 796 = n32 nt) (n6 : nt < 6) (hw : 1 ≤ w ∧ w ≤ 8) (hu : 1 ≤ u ∧ u ≤ 8) (ho : o ≤ 5) (hq : ∀ gi', (∀ s a j, ¬ (s = 64 ∧ a = 0) → gi' s a j = gi s a j) → (∀ j, ¬ (132 * nt ≤ j ∧ j < 132 * nt + 132) → j ≠ 796 → gi' 64 0 j = gi 64 0 j) → gi' 64 0 796 = n32 (nt + 1) → gi' 64 0 (132 * nt) = n32 w → gi' 64 0 (132 * nt + 1) = n32 u → gi' 64 0 (132 * nt + 2) = n32 o → gi' 64 0 (132 * nt + 3) = -1 → (∀ k, 4 ≤ k → k < 132 → gi' 64 0 (132 * nt + k) = n32 0) → Q (some (.inl (n32 nt))) (donM gi', g)) : ax_call (d + 3) m_M_thing [.inr (.inr (some (12, 0))), .inl (n32 w), .inl (n32 u), .inl (n32 o)] (gi, g) Q := by
  have h6 : ¬ nt = 6 := by omega
  have sb : n32 (nt + 1) - n32 1 = n32 nt := n32_sub (by omega)
  have key := loop_up (n := 132) (P := fun i => ∀ gi1 : GI, (∀ s a j, ¬ (s = 64 ∧ a = 0) → gi1 s a j = gi s a j) → (∀ j, ¬ (132 * nt ≤ j ∧ j < 132 * nt + 132) → gi1 64 0 j = gi 64 0 j) → (∀ k, k < i → gi1 64 0 (132 * nt + k) = n32 0) → Runs (d + 2) (m_M_thing, 64, [some (.inr (.inr (some (12, 0)))), some (.inl (n32 w)), some (.inl (n32 u)), some (.inl (n32 o)), some (.inl (n32 (132 * nt))), some (.inl (n32 i))], []) (gi1, g) Q) ?_ ?_
  · rw [e_M_thing]
    simp (disch := omega) only [b_M_thing_0, b_M_thing_7, b_M_thing_10, b_M_thing_17, b_M_thing_20, b_M_thing_26, b_M_thing_35, b_M_thing_39, b_M_thing_51, b_M_thing_58, c_M_lies, win_T, c_M_things _ _ _ _ hG, k796, h6, G_0_0 hG, G_0_1 hG, G_0_2 hG, G_0_3 hG, G_0_7 hG, G_0_10 hG, G_0_12 hG, G_0_13 hG, G_0_14 hG, G_0_15 hG, G_0_16 hG, G_0_17 hG, G_1_0 hG, G_1_2 hG, G_1_5 hG, G_2_4 hG, G_2_5 hG, G_3_5 hG, G_3_6 hG, G_3_7 hG, G_3_8 hG, G_3_9 hG, G_5_0 hG, G_5_1 hG, G_6_0 hG, G_6_1 hG, G_6_2 hG, G_6_9 hG, G_6_10 hG, G_6_11 hG, G_6_12 hG, G_6_13 hG, G_7_0 hG, G_7_5 hG, G_8_8 hG, G_8_9 hG, G_9_8 hG, G_9_9 hG, G_10_7 hG, G_10_8 hG, G_10_9 hG, G_10_10 hG, G_10_11 hG, G_11_0 hG, G_12_2 hG, G_12_3 hG, G_12_4 hG, G_12_5 hG, G_12_7 hG, G_12_8 hG, G_12_9 hG, G_12_12 hG, G_12_13 hG, G_12_14 hG, G_12_22 hG, G_12_23 hG, G_12_29 hG, G_12_30 hG, G_12_31 hG, G_12_37 hG, G_12_38 hG, G_12_39 hG, G_12_40 hG, G_12_41 hG, G_12_43 hG, G_12_46 hG, G_12_47 hG, G_12_48 hG, G_25 hG, G_26 hG, G_47 hG, G_58 hG, n32_add, n32_mul, n32_lt, n32_le, n32_eq, n32_clamp, n32_inT, n32_div, n32_rem, n32_m1, n32_m1', n32_m1lt, n32_ltm1, n32_10, n32_01, Nat.not_lt_zero, Nat.lt_irrefl, Nat.mul_zero, Nat.zero_mul, Nat.zero_add, Nat.add_zero, Nat.reduceEqDiff, Nat.one_ne_zero, Nat.zero_ne_one, ax_psh_none, ax_psh_some, true_and, and_true, and_false, false_and, not_true_eq_false, not_false_eq_true, true_imp_iff, false_imp_iff, imp_self, or_true, true_or, or_false, false_or, and_self, ite_true, ite_false, if_true, if_false]
    exact key 0 (Nat.zero_le _) gi (fun _ _ _ _ => rfl) (fun _ _ => rfl) (fun k hk => absurd hk (Nat.not_lt_zero k))
  · intro i hi ih gi1 f1 f2 f3
    rw [b_M_thing_64]
    simp (disch := omega) only [b_M_thing_72, hi, G_0_0 hG, G_0_1 hG, G_0_2 hG, G_0_3 hG, G_0_7 hG, G_0_10 hG, G_0_12 hG, G_0_13 hG, G_0_14 hG, G_0_15 hG, G_0_16 hG, G_0_17 hG, G_1_0 hG, G_1_2 hG, G_1_5 hG, G_2_4 hG, G_2_5 hG, G_3_5 hG, G_3_6 hG, G_3_7 hG, G_3_8 hG, G_3_9 hG, G_5_0 hG, G_5_1 hG, G_6_0 hG, G_6_1 hG, G_6_2 hG, G_6_9 hG, G_6_10 hG, G_6_11 hG, G_6_12 hG, G_6_13 hG, G_7_0 hG, G_7_5 hG, G_8_8 hG, G_8_9 hG, G_9_8 hG, G_9_9 hG, G_10_7 hG, G_10_8 hG, G_10_9 hG, G_10_10 hG, G_10_11 hG, G_11_0 hG, G_12_2 hG, G_12_3 hG, G_12_4 hG, G_12_5 hG, G_12_7 hG, G_12_8 hG, G_12_9 hG, G_12_12 hG, G_12_13 hG, G_12_14 hG, G_12_22 hG, G_12_23 hG, G_12_29 hG, G_12_30 hG, G_12_31 hG, G_12_37 hG, G_12_38 hG, G_12_39 hG, G_12_40 hG, G_12_41 hG, G_12_43 hG, G_12_46 hG, G_12_47 hG, G_12_48 hG, G_25 hG, G_26 hG, G_47 hG, G_58 hG, n32_add, n32_mul, n32_lt, n32_le, n32_eq, n32_clamp, n32_inT, n32_div, n32_rem, n32_m1, n32_m1', n32_m1lt, n32_ltm1, n32_10, n32_01, Nat.not_lt_zero, Nat.lt_irrefl, Nat.mul_zero, Nat.zero_mul, Nat.zero_add, Nat.add_zero, Nat.reduceEqDiff, Nat.one_ne_zero, Nat.zero_ne_one, ax_psh_none, ax_psh_some, true_and, and_true, and_false, false_and, not_true_eq_false, not_false_eq_true, true_imp_iff, false_imp_iff, imp_self, or_true, true_or, or_false, false_or, and_self, ite_true, ite_false, if_true, if_false]
    refine ih _ ?_ ?_ ?_
    · intro s a j q
      rw [wI_at, if_neg (by omega)]
      exact f1 s a j q
    · intro j q
      rw [wI_at, if_neg (by omega)]
      exact f2 j q
    · intro k hk
      rw [wI_at]
      by_cases z : k = i
      · rw [if_pos ⟨rfl, rfl, by omega⟩]
      · rw [if_neg (by omega)]
        exact f3 k (by omega)
  · intro gi1 f1 f2 f3
    have e796 : gi1 64 0 796 = n32 nt := (f2 796 (by omega)).trans k796
    have rd : ∀ a b c e, ax_wI (ax_wI (ax_wI (ax_wI gi1 64 0 (132 * nt) a) 64 0 (132 * nt + 1) b) 64 0 (132 * nt + 2) c) 64 0 (132 * nt + 3) e 64 0 796 = n32 nt := fun a b c e => by
      rw [wI_at, if_neg (by omega), wI_at, if_neg (by omega), wI_at, if_neg (by omega), wI_at, if_neg (by omega), e796]
    rw [b_M_thing_64]
    simp (disch := omega) only [b_M_thing_89, b_M_thing_146, b_M_thing_151, c_M_things _ _ _ _ hG, rd, wI_self, sb, c_M_good, G_0_0 hG, G_0_1 hG, G_0_2 hG, G_0_3 hG, G_0_7 hG, G_0_10 hG, G_0_12 hG, G_0_13 hG, G_0_14 hG, G_0_15 hG, G_0_16 hG, G_0_17 hG, G_1_0 hG, G_1_2 hG, G_1_5 hG, G_2_4 hG, G_2_5 hG, G_3_5 hG, G_3_6 hG, G_3_7 hG, G_3_8 hG, G_3_9 hG, G_5_0 hG, G_5_1 hG, G_6_0 hG, G_6_1 hG, G_6_2 hG, G_6_9 hG, G_6_10 hG, G_6_11 hG, G_6_12 hG, G_6_13 hG, G_7_0 hG, G_7_5 hG, G_8_8 hG, G_8_9 hG, G_9_8 hG, G_9_9 hG, G_10_7 hG, G_10_8 hG, G_10_9 hG, G_10_10 hG, G_10_11 hG, G_11_0 hG, G_12_2 hG, G_12_3 hG, G_12_4 hG, G_12_5 hG, G_12_7 hG, G_12_8 hG, G_12_9 hG, G_12_12 hG, G_12_13 hG, G_12_14 hG, G_12_22 hG, G_12_23 hG, G_12_29 hG, G_12_30 hG, G_12_31 hG, G_12_37 hG, G_12_38 hG, G_12_39 hG, G_12_40 hG, G_12_41 hG, G_12_43 hG, G_12_46 hG, G_12_47 hG, G_12_48 hG, G_25 hG, G_26 hG, G_47 hG, G_58 hG, n32_add, n32_mul, n32_lt, n32_le, n32_eq, n32_clamp, n32_inT, n32_div, n32_rem, n32_m1, n32_m1', n32_m1lt, n32_ltm1, n32_10, n32_01, Nat.not_lt_zero, Nat.lt_irrefl, Nat.mul_zero, Nat.zero_mul, Nat.zero_add, Nat.add_zero, Nat.reduceEqDiff, Nat.one_ne_zero, Nat.zero_ne_one, ax_psh_none, ax_psh_some, true_and, and_true, and_false, false_and, not_true_eq_false, not_false_eq_true, true_imp_iff, false_imp_iff, imp_self, or_true, true_or, or_false, false_or, and_self, ite_true, ite_false, if_true, if_false]
    refine hq _ ?_ ?_ ?_ ?_ ?_ ?_ ?_ ?_
    · intro s a j q
      rw [wI_at, if_neg (by omega), wI_at, if_neg (by omega), wI_at, if_neg (by omega), wI_at, if_neg (by omega), wI_at, if_neg (by omega)]
      exact f1 s a j q
    · intro j q q2
      rw [wI_at, if_neg (by omega), wI_at, if_neg (by omega), wI_at, if_neg (by omega), wI_at, if_neg (by omega), wI_at, if_neg (by omega)]
      exact f2 j q
    · rw [wI_self]
    · rw [wI_at, if_neg (by omega), wI_at, if_neg (by omega), wI_at, if_neg (by omega), wI_at, if_neg (by omega), wI_self]
    · rw [wI_at, if_neg (by omega), wI_at, if_neg (by omega), wI_at, if_neg (by omega), wI_self]
    · rw [wI_at, if_neg (by omega), wI_at, if_neg (by omega), wI_self]
    · rw [wI_at, if_neg (by omega), wI_self]
    · intro k q1 q2
      rw [wI_at, if_neg (by omega), wI_at, if_neg (by omega), wI_at, if_neg (by omega), wI_at, if_neg (by omega), wI_at, if_neg (by omega)]
      exact f3 k q2
theorem op_thing (x y z : Int32) : Op m_S_thing m_M_thing [.inl x, .inl y, .inl z] := by
  intro D n gi g Ls Q hD hn hC hQ
  obtain ⟨d, rfl⟩ : ∃ d2, D = d2 + 4 := ⟨D - 4, by omega⟩
  have hG := hC.1.1
  obtain ⟨nt, m, hN, hTh, hLw⟩ := hC.2.1
  obtain ⟨n6, m6, k796, k797, b1, b3, b4, hfo, hte, hte2⟩ := hN
  rcases win_cases2 x 1 8 (by omega) (by omega) with ⟨w, hw1, hw2, rfl⟩ | hw
  · rcases win_cases2 y 1 8 (by omega) (by omega) with ⟨u, hu1, hu2, rfl⟩ | hu
    · rcases win_cases2 z 0 5 (by omega) (by omega) with ⟨o, -, ho, rfl⟩ | ho
      · by_cases h6 : nt = 6
        · have h6' : ¬ nt < 6 := by omega
          have e796 : refC gi (-5) 3 64 0 796 = n32 nt := (refC_ne (by decide) (by decide) 0 796).trans k796
          simp (disch := omega) only [e_S_thing, b_S_thing_0, b_S_thing_7, b_S_thing_10, b_S_thing_17, b_S_thing_20, b_S_thing_26, b_S_thing_29, b_S_thing_34, b_S_thing_35, b_S_thing_51, b_S_thing_57, b_S_thing_58, b_S_thing_74, b_S_thing_93, c_S_within, win_T, b1, h6', c_S_refuse3 _ _ _ _ hG, G_0_0 hG, G_0_1 hG, G_0_2 hG, G_0_3 hG, G_0_7 hG, G_0_10 hG, G_0_12 hG, G_0_13 hG, G_0_14 hG, G_0_15 hG, G_0_16 hG, G_0_17 hG, G_1_0 hG, G_1_2 hG, G_1_5 hG, G_2_4 hG, G_2_5 hG, G_3_5 hG, G_3_6 hG, G_3_7 hG, G_3_8 hG, G_3_9 hG, G_5_0 hG, G_5_1 hG, G_6_0 hG, G_6_1 hG, G_6_2 hG, G_6_9 hG, G_6_10 hG, G_6_11 hG, G_6_12 hG, G_6_13 hG, G_7_0 hG, G_7_5 hG, G_8_8 hG, G_8_9 hG, G_9_8 hG, G_9_9 hG, G_10_7 hG, G_10_8 hG, G_10_9 hG, G_10_10 hG, G_10_11 hG, G_11_0 hG, G_12_2 hG, G_12_3 hG, G_12_4 hG, G_12_5 hG, G_12_7 hG, G_12_8 hG, G_12_9 hG, G_12_12 hG, G_12_13 hG, G_12_14 hG, G_12_22 hG, G_12_23 hG, G_12_29 hG, G_12_30 hG, G_12_31 hG, G_12_37 hG, G_12_38 hG, G_12_39 hG, G_12_40 hG, G_12_41 hG, G_12_43 hG, G_12_46 hG, G_12_47 hG, G_12_48 hG, G_25 hG, G_26 hG, G_47 hG, G_58 hG, n32_add, n32_mul, n32_lt, n32_le, n32_eq, n32_clamp, n32_inT, n32_div, n32_rem, n32_m1, n32_m1', n32_m1lt, n32_ltm1, n32_10, n32_01, Nat.not_lt_zero, Nat.lt_irrefl, Nat.mul_zero, Nat.zero_mul, Nat.zero_add, Nat.add_zero, Nat.reduceEqDiff, Nat.one_ne_zero, Nat.zero_ne_one, ax_psh_none, ax_psh_some, true_and, and_true, and_false, false_and, not_true_eq_false, not_false_eq_true, true_imp_iff, false_imp_iff, imp_self, or_true, true_or, or_false, false_or, and_self, ite_true, ite_false, if_true, if_false]
          simp (disch := omega) only [b_M_thing_0, b_M_thing_7, b_M_thing_10, b_M_thing_17, b_M_thing_20, b_M_thing_26, b_M_thing_35, b_M_thing_39, b_M_thing_44, b_M_thing_50, e_M_thing, c_M_lies, win_T, c_M_things _ _ _ _ hG, e796, h6, c_M_refuses3 _ _ _ _ hG, G_0_0 hG, G_0_1 hG, G_0_2 hG, G_0_3 hG, G_0_7 hG, G_0_10 hG, G_0_12 hG, G_0_13 hG, G_0_14 hG, G_0_15 hG, G_0_16 hG, G_0_17 hG, G_1_0 hG, G_1_2 hG, G_1_5 hG, G_2_4 hG, G_2_5 hG, G_3_5 hG, G_3_6 hG, G_3_7 hG, G_3_8 hG, G_3_9 hG, G_5_0 hG, G_5_1 hG, G_6_0 hG, G_6_1 hG, G_6_2 hG, G_6_9 hG, G_6_10 hG, G_6_11 hG, G_6_12 hG, G_6_13 hG, G_7_0 hG, G_7_5 hG, G_8_8 hG, G_8_9 hG, G_9_8 hG, G_9_9 hG, G_10_7 hG, G_10_8 hG, G_10_9 hG, G_10_10 hG, G_10_11 hG, G_11_0 hG, G_12_2 hG, G_12_3 hG, G_12_4 hG, G_12_5 hG, G_12_7 hG, G_12_8 hG, G_12_9 hG, G_12_12 hG, G_12_13 hG, G_12_14 hG, G_12_22 hG, G_12_23 hG, G_12_29 hG, G_12_30 hG, G_12_31 hG, G_12_37 hG, G_12_38 hG, G_12_39 hG, G_12_40 hG, G_12_41 hG, G_12_43 hG, G_12_46 hG, G_12_47 hG, G_12_48 hG, G_25 hG, G_26 hG, G_47 hG, G_58 hG, n32_add, n32_mul, n32_lt, n32_le, n32_eq, n32_clamp, n32_inT, n32_div, n32_rem, n32_m1, n32_m1', n32_m1lt, n32_ltm1, n32_10, n32_01, Nat.not_lt_zero, Nat.lt_irrefl, Nat.mul_zero, Nat.zero_mul, Nat.zero_add, Nat.add_zero, Nat.reduceEqDiff, Nat.one_ne_zero, Nat.zero_ne_one, ax_psh_none, ax_psh_some, true_and, and_true, and_false, false_and, not_true_eq_false, not_false_eq_true, true_imp_iff, false_imp_iff, imp_self, or_true, true_or, or_false, false_or, and_self, ite_true, ite_false, if_true, if_false]
          exact ref_end0 hC hQ (by omega)
        · refine c_S_thing d hG b1 (by omega) ⟨hw1, hw2⟩ ⟨hu1, hu2⟩ ho ?_
          intro gi1 fk fo p1 p20 p21 p22 p23 pc
          have e64 : ∀ j, donC gi1 64 0 j = gi 64 0 j := fun j => (donC_ne (by decide) 0 j).trans (fo 64 0 j (by omega))
          refine c_M_thing (d + 1) hG ((e64 796).trans k796) (by omega) ⟨hw1, hw2⟩ ⟨hu1, hu2⟩ ho ?_
          intro gi2 f1 f2 k2 m0 m1 m2 m3 mz
          refine don_endK hC hQ fk (fun s a j q1 q2 q3 => f1 s a j (by omega)) (Ls' := Ls) ?_ _
          have r2 : ∀ s a j, s ≠ 0 → s ≠ 64 → gi2 s a j = gi1 s a j := fun s a j q1 q2 => (f1 s a j (by omega)).trans (donC_ne q1 a j)
          have r64 : ∀ j, ¬ (132 * nt ≤ j ∧ j < 132 * nt + 132) → j ≠ 796 → gi2 64 0 j = gi 64 0 j := fun j q1 q2 => (f2 j q1 q2).trans (e64 j)
          refine ⟨nt + 1, m, ⟨by omega, m6, k2, (r64 797 (by omega) (by omega)).trans k797, (r2 1 0 1 (by decide) (by decide)).trans p1, ?_, ?_, ?_, TermOK_of hte (fun j q1 q2 => r64 j (by omega) (by omega)), fun i hi => ?_⟩, ?_, ?_⟩
          · rw [r2 1 0 3 (by decide) (by decide), fo 1 0 3 (by omega), b3]
          · rw [r2 1 0 4 (by decide) (by decide), fo 1 0 4 (by omega), r64 798 (by omega) (by omega), b4]
          · rw [r64 798 (by omega) (by omega)]
            exact hfo
          · rw [r2 28 0 i (by decide) (by decide), fo 28 0 i (by omega), r64 _ (by omega) (by omega)]
            exact hte2 i hi
          · intro t ht
            rw [show 6 * 0 + t = t by omega]
            by_cases zt : t = nt
            · subst zt
              refine ⟨⟨w, u, o, fun _ => 0, fun _ => 0, m0, m1, m2, ⟨hw1, hw2⟩, ⟨hu1, hu2⟩, ho, Or.inl m3, fun c hc => ⟨⟨mz _ (by omega) (by omega), (by decide : (0 : Nat) < 10)⟩, mz _ (by omega) (by omega), (by decide : (0 : Nat) ≤ 1)⟩, ?_⟩, fun i hi => ?_, fun c hc => ⟨?_, ?_⟩⟩
              · rw [sumN_const]
                omega
              · rw [r2 2 t i (by decide) (by decide)]
                have cs : i = 0 ∨ i = 1 ∨ i = 2 ∨ i = 3 := by omega
                rcases cs with rfl | rfl | rfl | rfl
                · exact p20.trans m0.symm
                · exact p21.trans m1.symm
                · exact p22.trans m2.symm
                · exact p23.trans m3.symm
              · rw [r2 29 t c (by decide) (by decide), mz _ (by omega) (by omega)]
                exact (pc c hc).1
              · rw [r2 30 t c (by decide) (by decide), mz _ (by omega) (by omega)]
                exact (pc c hc).2
            · obtain ⟨⟨W', T', O', b', h', q1⟩, q2⟩ := hTh t (by omega)
              rw [show 6 * 0 + t = t by omega] at q2
              exact ⟨⟨W', T', O', b', h', ThOK_of q1 (fun j p1 p2 => r64 j (by omega) (by omega))⟩, ThSame_of q2 (fun j p1 p2 => r64 j (by omega) (by omega)) (fun j => (r2 2 t j (by decide) (by decide)).trans (fo 2 t j (by omega))) (fun j => (r2 29 t j (by decide) (by decide)).trans (fo 29 t j (by omega))) (fun j => (r2 30 t j (by decide) (by decide)).trans (fo 30 t j (by omega)))⟩
          · exact LawsR_of hLw m6 (fun j q1 q2 => r64 j (by omega) (by omega)) (fun s a j q => (r2 s a j (by omega) (by omega)).trans (fo s a j (by omega))) (GF_refl hG)
      · simp (disch := omega) only [e_S_thing, b_S_thing_0, b_S_thing_7, b_S_thing_10, b_S_thing_17, b_S_thing_20, b_S_thing_26, b_S_thing_29, b_S_thing_34, b_S_thing_35, b_S_thing_51, b_S_thing_57, b_S_thing_58, b_S_thing_74, b_S_thing_93, c_S_within, c_M_lies, win_T, ho, c_S_refuse0 _ _ _ _ hG, G_0_0 hG, G_0_1 hG, G_0_2 hG, G_0_3 hG, G_0_7 hG, G_0_10 hG, G_0_12 hG, G_0_13 hG, G_0_14 hG, G_0_15 hG, G_0_16 hG, G_0_17 hG, G_1_0 hG, G_1_2 hG, G_1_5 hG, G_2_4 hG, G_2_5 hG, G_3_5 hG, G_3_6 hG, G_3_7 hG, G_3_8 hG, G_3_9 hG, G_5_0 hG, G_5_1 hG, G_6_0 hG, G_6_1 hG, G_6_2 hG, G_6_9 hG, G_6_10 hG, G_6_11 hG, G_6_12 hG, G_6_13 hG, G_7_0 hG, G_7_5 hG, G_8_8 hG, G_8_9 hG, G_9_8 hG, G_9_9 hG, G_10_7 hG, G_10_8 hG, G_10_9 hG, G_10_10 hG, G_10_11 hG, G_11_0 hG, G_12_2 hG, G_12_3 hG, G_12_4 hG, G_12_5 hG, G_12_7 hG, G_12_8 hG, G_12_9 hG, G_12_12 hG, G_12_13 hG, G_12_14 hG, G_12_22 hG, G_12_23 hG, G_12_29 hG, G_12_30 hG, G_12_31 hG, G_12_37 hG, G_12_38 hG, G_12_39 hG, G_12_40 hG, G_12_41 hG, G_12_43 hG, G_12_46 hG, G_12_47 hG, G_12_48 hG, G_25 hG, G_26 hG, G_47 hG, G_58 hG, n32_add, n32_mul, n32_lt, n32_le, n32_eq, n32_clamp, n32_inT, n32_div, n32_rem, n32_m1, n32_m1', n32_m1lt, n32_ltm1, n32_10, n32_01, Nat.not_lt_zero, Nat.lt_irrefl, Nat.mul_zero, Nat.zero_mul, Nat.zero_add, Nat.add_zero, Nat.reduceEqDiff, Nat.one_ne_zero, Nat.zero_ne_one, ax_psh_none, ax_psh_some, true_and, and_true, and_false, false_and, not_true_eq_false, not_false_eq_true, true_imp_iff, false_imp_iff, imp_self, or_true, true_or, or_false, false_or, and_self, ite_true, ite_false, if_true, if_false]
        simp (disch := omega) only [b_M_thing_0, b_M_thing_7, b_M_thing_10, b_M_thing_17, b_M_thing_20, b_M_thing_26, b_M_thing_29, b_M_thing_34, e_M_thing, c_M_lies, win_T, ho, c_M_refuses0 _ _ _ _ hG, G_0_0 hG, G_0_1 hG, G_0_2 hG, G_0_3 hG, G_0_7 hG, G_0_10 hG, G_0_12 hG, G_0_13 hG, G_0_14 hG, G_0_15 hG, G_0_16 hG, G_0_17 hG, G_1_0 hG, G_1_2 hG, G_1_5 hG, G_2_4 hG, G_2_5 hG, G_3_5 hG, G_3_6 hG, G_3_7 hG, G_3_8 hG, G_3_9 hG, G_5_0 hG, G_5_1 hG, G_6_0 hG, G_6_1 hG, G_6_2 hG, G_6_9 hG, G_6_10 hG, G_6_11 hG, G_6_12 hG, G_6_13 hG, G_7_0 hG, G_7_5 hG, G_8_8 hG, G_8_9 hG, G_9_8 hG, G_9_9 hG, G_10_7 hG, G_10_8 hG, G_10_9 hG, G_10_10 hG, G_10_11 hG, G_11_0 hG, G_12_2 hG, G_12_3 hG, G_12_4 hG, G_12_5 hG, G_12_7 hG, G_12_8 hG, G_12_9 hG, G_12_12 hG, G_12_13 hG, G_12_14 hG, G_12_22 hG, G_12_23 hG, G_12_29 hG, G_12_30 hG, G_12_31 hG, G_12_37 hG, G_12_38 hG, G_12_39 hG, G_12_40 hG, G_12_41 hG, G_12_43 hG, G_12_46 hG, G_12_47 hG, G_12_48 hG, G_25 hG, G_26 hG, G_47 hG, G_58 hG, n32_add, n32_mul, n32_lt, n32_le, n32_eq, n32_clamp, n32_inT, n32_div, n32_rem, n32_m1, n32_m1', n32_m1lt, n32_ltm1, n32_10, n32_01, Nat.not_lt_zero, Nat.lt_irrefl, Nat.mul_zero, Nat.zero_mul, Nat.zero_add, Nat.add_zero, Nat.reduceEqDiff, Nat.one_ne_zero, Nat.zero_ne_one, ax_psh_none, ax_psh_some, true_and, and_true, and_false, false_and, not_true_eq_false, not_false_eq_true, true_imp_iff, false_imp_iff, imp_self, or_true, true_or, or_false, false_or, and_self, ite_true, ite_false, if_true, if_false]
        exact ref_end0 hC hQ (by omega)
    · simp (disch := omega) only [e_S_thing, b_S_thing_0, b_S_thing_7, b_S_thing_10, b_S_thing_17, b_S_thing_20, b_S_thing_26, b_S_thing_29, b_S_thing_34, b_S_thing_35, b_S_thing_51, b_S_thing_57, b_S_thing_58, b_S_thing_74, b_S_thing_93, c_S_within, c_M_lies, win_T, hu, c_S_refuse0 _ _ _ _ hG, G_0_0 hG, G_0_1 hG, G_0_2 hG, G_0_3 hG, G_0_7 hG, G_0_10 hG, G_0_12 hG, G_0_13 hG, G_0_14 hG, G_0_15 hG, G_0_16 hG, G_0_17 hG, G_1_0 hG, G_1_2 hG, G_1_5 hG, G_2_4 hG, G_2_5 hG, G_3_5 hG, G_3_6 hG, G_3_7 hG, G_3_8 hG, G_3_9 hG, G_5_0 hG, G_5_1 hG, G_6_0 hG, G_6_1 hG, G_6_2 hG, G_6_9 hG, G_6_10 hG, G_6_11 hG, G_6_12 hG, G_6_13 hG, G_7_0 hG, G_7_5 hG, G_8_8 hG, G_8_9 hG, G_9_8 hG, G_9_9 hG, G_10_7 hG, G_10_8 hG, G_10_9 hG, G_10_10 hG, G_10_11 hG, G_11_0 hG, G_12_2 hG, G_12_3 hG, G_12_4 hG, G_12_5 hG, G_12_7 hG, G_12_8 hG, G_12_9 hG, G_12_12 hG, G_12_13 hG, G_12_14 hG, G_12_22 hG, G_12_23 hG, G_12_29 hG, G_12_30 hG, G_12_31 hG, G_12_37 hG, G_12_38 hG, G_12_39 hG, G_12_40 hG, G_12_41 hG, G_12_43 hG, G_12_46 hG, G_12_47 hG, G_12_48 hG, G_25 hG, G_26 hG, G_47 hG, G_58 hG, n32_add, n32_mul, n32_lt, n32_le, n32_eq, n32_clamp, n32_inT, n32_div, n32_rem, n32_m1, n32_m1', n32_m1lt, n32_ltm1, n32_10, n32_01, Nat.not_lt_zero, Nat.lt_irrefl, Nat.mul_zero, Nat.zero_mul, Nat.zero_add, Nat.add_zero, Nat.reduceEqDiff, Nat.one_ne_zero, Nat.zero_ne_one, ax_psh_none, ax_psh_some, true_and, and_true, and_false, false_and, not_true_eq_false, not_false_eq_true, true_imp_iff, false_imp_iff, imp_self, or_true, true_or, or_false, false_or, and_self, ite_true, ite_false, if_true, if_false]
      simp (disch := omega) only [b_M_thing_0, b_M_thing_7, b_M_thing_10, b_M_thing_17, b_M_thing_29, b_M_thing_34, e_M_thing, c_M_lies, win_T, hu, c_M_refuses0 _ _ _ _ hG, G_0_0 hG, G_0_1 hG, G_0_2 hG, G_0_3 hG, G_0_7 hG, G_0_10 hG, G_0_12 hG, G_0_13 hG, G_0_14 hG, G_0_15 hG, G_0_16 hG, G_0_17 hG, G_1_0 hG, G_1_2 hG, G_1_5 hG, G_2_4 hG, G_2_5 hG, G_3_5 hG, G_3_6 hG, G_3_7 hG, G_3_8 hG, G_3_9 hG, G_5_0 hG, G_5_1 hG, G_6_0 hG, G_6_1 hG, G_6_2 hG, G_6_9 hG, G_6_10 hG, G_6_11 hG, G_6_12 hG, G_6_13 hG, G_7_0 hG, G_7_5 hG, G_8_8 hG, G_8_9 hG, G_9_8 hG, G_9_9 hG, G_10_7 hG, G_10_8 hG, G_10_9 hG, G_10_10 hG, G_10_11 hG, G_11_0 hG, G_12_2 hG, G_12_3 hG, G_12_4 hG, G_12_5 hG, G_12_7 hG, G_12_8 hG, G_12_9 hG, G_12_12 hG, G_12_13 hG, G_12_14 hG, G_12_22 hG, G_12_23 hG, G_12_29 hG, G_12_30 hG, G_12_31 hG, G_12_37 hG, G_12_38 hG, G_12_39 hG, G_12_40 hG, G_12_41 hG, G_12_43 hG, G_12_46 hG, G_12_47 hG, G_12_48 hG, G_25 hG, G_26 hG, G_47 hG, G_58 hG, n32_add, n32_mul, n32_lt, n32_le, n32_eq, n32_clamp, n32_inT, n32_div, n32_rem, n32_m1, n32_m1', n32_m1lt, n32_ltm1, n32_10, n32_01, Nat.not_lt_zero, Nat.lt_irrefl, Nat.mul_zero, Nat.zero_mul, Nat.zero_add, Nat.add_zero, Nat.reduceEqDiff, Nat.one_ne_zero, Nat.zero_ne_one, ax_psh_none, ax_psh_some, true_and, and_true, and_false, false_and, not_true_eq_false, not_false_eq_true, true_imp_iff, false_imp_iff, imp_self, or_true, true_or, or_false, false_or, and_self, ite_true, ite_false, if_true, if_false]
      exact ref_end0 hC hQ (by omega)
  · simp (disch := omega) only [e_S_thing, b_S_thing_0, b_S_thing_7, b_S_thing_10, b_S_thing_17, b_S_thing_20, b_S_thing_26, b_S_thing_29, b_S_thing_34, b_S_thing_35, b_S_thing_51, b_S_thing_57, b_S_thing_58, b_S_thing_74, b_S_thing_93, c_S_within, c_M_lies, win_T, hw, c_S_refuse0 _ _ _ _ hG, G_0_0 hG, G_0_1 hG, G_0_2 hG, G_0_3 hG, G_0_7 hG, G_0_10 hG, G_0_12 hG, G_0_13 hG, G_0_14 hG, G_0_15 hG, G_0_16 hG, G_0_17 hG, G_1_0 hG, G_1_2 hG, G_1_5 hG, G_2_4 hG, G_2_5 hG, G_3_5 hG, G_3_6 hG, G_3_7 hG, G_3_8 hG, G_3_9 hG, G_5_0 hG, G_5_1 hG, G_6_0 hG, G_6_1 hG, G_6_2 hG, G_6_9 hG, G_6_10 hG, G_6_11 hG, G_6_12 hG, G_6_13 hG, G_7_0 hG, G_7_5 hG, G_8_8 hG, G_8_9 hG, G_9_8 hG, G_9_9 hG, G_10_7 hG, G_10_8 hG, G_10_9 hG, G_10_10 hG, G_10_11 hG, G_11_0 hG, G_12_2 hG, G_12_3 hG, G_12_4 hG, G_12_5 hG, G_12_7 hG, G_12_8 hG, G_12_9 hG, G_12_12 hG, G_12_13 hG, G_12_14 hG, G_12_22 hG, G_12_23 hG, G_12_29 hG, G_12_30 hG, G_12_31 hG, G_12_37 hG, G_12_38 hG, G_12_39 hG, G_12_40 hG, G_12_41 hG, G_12_43 hG, G_12_46 hG, G_12_47 hG, G_12_48 hG, G_25 hG, G_26 hG, G_47 hG, G_58 hG, n32_add, n32_mul, n32_lt, n32_le, n32_eq, n32_clamp, n32_inT, n32_div, n32_rem, n32_m1, n32_m1', n32_m1lt, n32_ltm1, n32_10, n32_01, Nat.not_lt_zero, Nat.lt_irrefl, Nat.mul_zero, Nat.zero_mul, Nat.zero_add, Nat.add_zero, Nat.reduceEqDiff, Nat.one_ne_zero, Nat.zero_ne_one, ax_psh_none, ax_psh_some, true_and, and_true, and_false, false_and, not_true_eq_false, not_false_eq_true, true_imp_iff, false_imp_iff, imp_self, or_true, true_or, or_false, false_or, and_self, ite_true, ite_false, if_true, if_false]
    simp (disch := omega) only [b_M_thing_0, b_M_thing_7, b_M_thing_29, b_M_thing_34, e_M_thing, c_M_lies, win_T, hw, c_M_refuses0 _ _ _ _ hG, G_0_0 hG, G_0_1 hG, G_0_2 hG, G_0_3 hG, G_0_7 hG, G_0_10 hG, G_0_12 hG, G_0_13 hG, G_0_14 hG, G_0_15 hG, G_0_16 hG, G_0_17 hG, G_1_0 hG, G_1_2 hG, G_1_5 hG, G_2_4 hG, G_2_5 hG, G_3_5 hG, G_3_6 hG, G_3_7 hG, G_3_8 hG, G_3_9 hG, G_5_0 hG, G_5_1 hG, G_6_0 hG, G_6_1 hG, G_6_2 hG, G_6_9 hG, G_6_10 hG, G_6_11 hG, G_6_12 hG, G_6_13 hG, G_7_0 hG, G_7_5 hG, G_8_8 hG, G_8_9 hG, G_9_8 hG, G_9_9 hG, G_10_7 hG, G_10_8 hG, G_10_9 hG, G_10_10 hG, G_10_11 hG, G_11_0 hG, G_12_2 hG, G_12_3 hG, G_12_4 hG, G_12_5 hG, G_12_7 hG, G_12_8 hG, G_12_9 hG, G_12_12 hG, G_12_13 hG, G_12_14 hG, G_12_22 hG, G_12_23 hG, G_12_29 hG, G_12_30 hG, G_12_31 hG, G_12_37 hG, G_12_38 hG, G_12_39 hG, G_12_40 hG, G_12_41 hG, G_12_43 hG, G_12_46 hG, G_12_47 hG, G_12_48 hG, G_25 hG, G_26 hG, G_47 hG, G_58 hG, n32_add, n32_mul, n32_lt, n32_le, n32_eq, n32_clamp, n32_inT, n32_div, n32_rem, n32_m1, n32_m1', n32_m1lt, n32_ltm1, n32_10, n32_01, Nat.not_lt_zero, Nat.lt_irrefl, Nat.mul_zero, Nat.zero_mul, Nat.zero_add, Nat.add_zero, Nat.reduceEqDiff, Nat.one_ne_zero, Nat.zero_ne_one, ax_psh_none, ax_psh_some, true_and, and_true, and_false, false_and, not_true_eq_false, not_false_eq_true, true_imp_iff, false_imp_iff, imp_self, or_true, true_or, or_false, false_or, and_self, ite_true, ite_false, if_true, if_false]
    exact ref_end0 hC hQ (by omega)
/-! bytes -/
def byt (x : Int32) (r : Nat) : Nat := x.toBitVec.toNat / 2 ^ (24 - 8 * r) % 256
theorem byt_lt (x : Int32) (r : Nat) : byt x r < 256 := Nat.mod_lt _ (by decide)
theorem by_c24 (x : Int32) : ((x.toUInt32 >>> ((n32 24).toUInt32 &&& Int32.toUInt32 31)).toInt32) &&& n32 255 = n32 (byt x 0) := by
  apply Int32.toBitVec_inj.mp
  apply BitVec.eq_of_toNat_eq
  have e1 : ((x.toUInt32 >>> ((n32 24).toUInt32 &&& Int32.toUInt32 31)).toInt32).toBitVec.toNat = x.toBitVec.toNat / 2 ^ 24 := by
    show (x.toUInt32 >>> ((n32 24).toUInt32 &&& Int32.toUInt32 31)).toNat = _
    rw [UInt32.toNat_shiftRight, show ((n32 24).toUInt32 &&& Int32.toUInt32 31).toNat % 32 = 24 by decide, Nat.shiftRight_eq_div_pow]
    rfl
  have e2 : (n32 255).toBitVec.toNat = 2 ^ 8 - 1 := by decide
  have e3 : (n32 (byt x 0)).toBitVec.toNat = byt x 0 := by
    unfold n32
    rw [Int32.toBitVec_ofNat', BitVec.toNat_ofNat]
    exact Nat.mod_eq_of_lt (Nat.lt_trans (byt_lt x 0) (by decide))
  rw [Int32.toBitVec_and, BitVec.toNat_and, e1, e2, e3, Nat.and_two_pow_sub_one_eq_mod]
  rfl
theorem by_m24 (x : Int32) : (x >>> (n32 24 &&& 31)).toInt8 = Int8.ofNat (byt x 0) := by
  apply Int8.toBitVec_inj.mp
  have e : ((n32 24 &&& 31 : Int32).toBitVec.smod 32).toNat = 24 := by decide
  rw [Int32.toBitVec_toInt8, Int32.toBitVec_shiftRight, BitVec.sshiftRight_eq', e, Int8.toBitVec_ofNat']
  apply BitVec.eq_of_getLsbD_eq
  intro i hi
  have h8 : (256 : Nat) = 2 ^ 8 := by decide
  rw [BitVec.getLsbD_signExtend, BitVec.getLsbD_sshiftRight, BitVec.getLsbD_ofNat, byt, h8, Nat.testBit_mod_two_pow, Nat.testBit_div_two_pow, BitVec.testBit_toNat, if_pos (show i < 32 by omega), if_pos (show 24 + i < 32 by omega), show i + (24 - 8 * 0) = 24 + i by omega]
  simp [hi, show ¬ 32 ≤ i by omega]
theorem by_c16 (x : Int32) : ((x.toUInt32 >>> ((n32 16).toUInt32 &&& Int32.toUInt32 31)).toInt32) &&& n32 255 = n32 (byt x 1) := by
  apply Int32.toBitVec_inj.mp
  apply BitVec.eq_of_toNat_eq
  have e1 : ((x.toUInt32 >>> ((n32 16).toUInt32 &&& Int32.toUInt32 31)).toInt32).toBitVec.toNat = x.toBitVec.toNat / 2 ^ 16 := by
    show (x.toUInt32 >>> ((n32 16).toUInt32 &&& Int32.toUInt32 31)).toNat = _
    rw [UInt32.toNat_shiftRight, show ((n32 16).toUInt32 &&& Int32.toUInt32 31).toNat % 32 = 16 by decide, Nat.shiftRight_eq_div_pow]
    rfl
  have e2 : (n32 255).toBitVec.toNat = 2 ^ 8 - 1 := by decide
  have e3 : (n32 (byt x 1)).toBitVec.toNat = byt x 1 := by
    unfold n32
    rw [Int32.toBitVec_ofNat', BitVec.toNat_ofNat]
    exact Nat.mod_eq_of_lt (Nat.lt_trans (byt_lt x 1) (by decide))
  rw [Int32.toBitVec_and, BitVec.toNat_and, e1, e2, e3, Nat.and_two_pow_sub_one_eq_mod]
  rfl
theorem by_m16 (x : Int32) : (x >>> (n32 16 &&& 31)).toInt8 = Int8.ofNat (byt x 1) := by
  apply Int8.toBitVec_inj.mp
  have e : ((n32 16 &&& 31 : Int32).toBitVec.smod 32).toNat = 16 := by decide
  rw [Int32.toBitVec_toInt8, Int32.toBitVec_shiftRight, BitVec.sshiftRight_eq', e, Int8.toBitVec_ofNat']
  apply BitVec.eq_of_getLsbD_eq
  intro i hi
  have h8 : (256 : Nat) = 2 ^ 8 := by decide
  rw [BitVec.getLsbD_signExtend, BitVec.getLsbD_sshiftRight, BitVec.getLsbD_ofNat, byt, h8, Nat.testBit_mod_two_pow, Nat.testBit_div_two_pow, BitVec.testBit_toNat, if_pos (show i < 32 by omega), if_pos (show 16 + i < 32 by omega), show i + (24 - 8 * 1) = 16 + i by omega]
  simp [hi, show ¬ 32 ≤ i by omega]
theorem by_c8 (x : Int32) : ((x.toUInt32 >>> ((n32 8).toUInt32 &&& Int32.toUInt32 31)).toInt32) &&& n32 255 = n32 (byt x 2) := by
  apply Int32.toBitVec_inj.mp
  apply BitVec.eq_of_toNat_eq
  have e1 : ((x.toUInt32 >>> ((n32 8).toUInt32 &&& Int32.toUInt32 31)).toInt32).toBitVec.toNat = x.toBitVec.toNat / 2 ^ 8 := by
    show (x.toUInt32 >>> ((n32 8).toUInt32 &&& Int32.toUInt32 31)).toNat = _
    rw [UInt32.toNat_shiftRight, show ((n32 8).toUInt32 &&& Int32.toUInt32 31).toNat % 32 = 8 by decide, Nat.shiftRight_eq_div_pow]
    rfl
  have e2 : (n32 255).toBitVec.toNat = 2 ^ 8 - 1 := by decide
  have e3 : (n32 (byt x 2)).toBitVec.toNat = byt x 2 := by
    unfold n32
    rw [Int32.toBitVec_ofNat', BitVec.toNat_ofNat]
    exact Nat.mod_eq_of_lt (Nat.lt_trans (byt_lt x 2) (by decide))
  rw [Int32.toBitVec_and, BitVec.toNat_and, e1, e2, e3, Nat.and_two_pow_sub_one_eq_mod]
  rfl
theorem by_m8 (x : Int32) : (x >>> (n32 8 &&& 31)).toInt8 = Int8.ofNat (byt x 2) := by
  apply Int8.toBitVec_inj.mp
  have e : ((n32 8 &&& 31 : Int32).toBitVec.smod 32).toNat = 8 := by decide
  rw [Int32.toBitVec_toInt8, Int32.toBitVec_shiftRight, BitVec.sshiftRight_eq', e, Int8.toBitVec_ofNat']
  apply BitVec.eq_of_getLsbD_eq
  intro i hi
  have h8 : (256 : Nat) = 2 ^ 8 := by decide
  rw [BitVec.getLsbD_signExtend, BitVec.getLsbD_sshiftRight, BitVec.getLsbD_ofNat, byt, h8, Nat.testBit_mod_two_pow, Nat.testBit_div_two_pow, BitVec.testBit_toNat, if_pos (show i < 32 by omega), if_pos (show 8 + i < 32 by omega), show i + (24 - 8 * 2) = 8 + i by omega]
  simp [hi, show ¬ 32 ≤ i by omega]
theorem by_c0 (x : Int32) : ((x.toUInt32 >>> ((n32 0).toUInt32 &&& Int32.toUInt32 31)).toInt32) &&& n32 255 = n32 (byt x 3) := by
  apply Int32.toBitVec_inj.mp
  apply BitVec.eq_of_toNat_eq
  have e1 : ((x.toUInt32 >>> ((n32 0).toUInt32 &&& Int32.toUInt32 31)).toInt32).toBitVec.toNat = x.toBitVec.toNat / 2 ^ 0 := by
    show (x.toUInt32 >>> ((n32 0).toUInt32 &&& Int32.toUInt32 31)).toNat = _
    rw [UInt32.toNat_shiftRight, show ((n32 0).toUInt32 &&& Int32.toUInt32 31).toNat % 32 = 0 by decide, Nat.shiftRight_eq_div_pow]
    rfl
  have e2 : (n32 255).toBitVec.toNat = 2 ^ 8 - 1 := by decide
  have e3 : (n32 (byt x 3)).toBitVec.toNat = byt x 3 := by
    unfold n32
    rw [Int32.toBitVec_ofNat', BitVec.toNat_ofNat]
    exact Nat.mod_eq_of_lt (Nat.lt_trans (byt_lt x 3) (by decide))
  rw [Int32.toBitVec_and, BitVec.toNat_and, e1, e2, e3, Nat.and_two_pow_sub_one_eq_mod]
  rfl
theorem by_m0 (x : Int32) : (x >>> (n32 0 &&& 31)).toInt8 = Int8.ofNat (byt x 3) := by
  apply Int8.toBitVec_inj.mp
  have e : ((n32 0 &&& 31 : Int32).toBitVec.smod 32).toNat = 0 := by decide
  rw [Int32.toBitVec_toInt8, Int32.toBitVec_shiftRight, BitVec.sshiftRight_eq', e, Int8.toBitVec_ofNat']
  apply BitVec.eq_of_getLsbD_eq
  intro i hi
  have h8 : (256 : Nat) = 2 ^ 8 := by decide
  rw [BitVec.getLsbD_signExtend, BitVec.getLsbD_sshiftRight, BitVec.getLsbD_ofNat, byt, h8, Nat.testBit_mod_two_pow, Nat.testBit_div_two_pow, BitVec.testBit_toNat, if_pos (show i < 32 by omega), if_pos (show 0 + i < 32 by omega), show i + (24 - 8 * 3) = 0 + i by omega]
  simp [hi, show ¬ 32 ≤ i by omega]
theorem sb_chk : allN 256 (fun k => decide ((k < 128 → (Int8.ofNat k).toInt32 = n32 k) ∧ (128 ≤ k → (Int8.ofNat k).toInt32 < n32 0) ∧ (Int8.ofNat k).toInt32 &&& n32 255 = n32 k)) = true := by decide +kernel
theorem sb_ok {k : Nat} (h : k < 256) : SB (Int8.ofNat k).toInt32 k := ⟨h, of_decide_eq_true (allN_at sb_chk k h)⟩
theorem by_mr (x : Int32) {r : Nat} (hr : r < 4) : SB (((x >>> ((n32 24 - n32 8 * n32 r) &&& 31)).toInt8.toInt32).toInt8.toInt32) (byt x r) := by
  have cs : r = 0 ∨ r = 1 ∨ r = 2 ∨ r = 3 := by omega
  rcases cs with rfl | rfl | rfl | rfl
  · rw [show n32 24 - n32 8 * n32 0 = n32 24 by decide, by_m24, Int8.toInt8_toInt32]
    exact sb_ok (byt_lt x 0)
  · rw [show n32 24 - n32 8 * n32 1 = n32 16 by decide, by_m16, Int8.toInt8_toInt32]
    exact sb_ok (byt_lt x 1)
  · rw [show n32 24 - n32 8 * n32 2 = n32 8 by decide, by_m8, Int8.toInt8_toInt32]
    exact sb_ok (byt_lt x 2)
  · rw [show n32 24 - n32 8 * n32 3 = n32 0 by decide, by_m0, Int8.toInt8_toInt32]
    exact sb_ok (byt_lt x 3)
/-! feed -/
def fdB (xs : Nat → Int32) (k : Nat) : Nat := byt (xs (k / 4)) (k % 4)
/-- n bytes of F stand behind the first l -/
def Fed (gi gi' : GI) (l n : Nat) (F : Nat → Nat) : Prop := (∀ s a j, ¬ (s = 22 ∧ a = 0 ∧ l ≤ j ∧ j < l + n) → ¬ (s = 0 ∧ a = 0 ∧ j = 4) → gi' s a j = gi s a j) ∧ gi' 0 0 4 = n32 (l + n) ∧ ∀ k, k < n → gi' 22 0 (l + k) = n32 (F k)
theorem Fed_one {gi gi' : GI} {l n : Nat} {F : Nat → Nat} {v : Int32} (h : Fed gi gi' l n F) (hv : v = n32 (F n)) : Fed gi (ax_wI (ax_wI gi' 22 0 (l + n) v) 0 0 4 (n32 (l + n + 1))) l (n + 1) F := by
  obtain ⟨h1, h2, h3⟩ := h
  refine ⟨fun s a j q1 q2 => ?_, ?_, fun k hk => ?_⟩
  · rw [wI_at, if_neg q2, wI_at, if_neg (by omega)]
    exact h1 s a j (by omega) q2
  · rw [wI_self]
    rfl
  · rw [wI_ne (by decide), wI_at]
    by_cases z : k = n
    · rw [if_pos ⟨rfl, rfl, by omega⟩, hv, z]
    · rw [if_neg (by omega)]
      exact h3 k (by omega)
theorem pt_step24 {d l n : Nat} {x : Int32} {gi gi' : GI} {g : AG} {Q : Option AV → AH → Prop} {F : Nat → Nat} (hG : GOK g) (h : Fed gi gi' l n F) (hl : l + n < 400) (hF : F n = byt x 0) (hq : ∀ gi2, Fed gi gi2 l (n + 1) F → Runs d (m_S_putOnTape, 3, [some (.inr (.inr (some (0, 0)))), some (.inl x), some (.inl (n32 16))], []) (gi2, g) Q) : Runs d (m_S_putOnTape, 3, [some (.inr (.inr (some (0, 0)))), some (.inl x), some (.inl (n32 24))], []) (gi', g) Q := by
  have e4 := h.2.1
  have w4 : ∀ v, ax_wI gi' 22 0 (l + n) v 0 0 4 = n32 (l + n) := fun v => by rw [wI_ne (by decide), e4]
  rw [b_S_putOnTape_3]
  simp (disch := omega) only [b_S_putOnTape_7, b_S_putOnTape_17, e4, w4, hl, by_c24, show n32 24 + (-8) = n32 16 by decide, G_0_0 hG, G_0_1 hG, G_0_2 hG, G_0_3 hG, G_0_7 hG, G_0_10 hG, G_0_12 hG, G_0_13 hG, G_0_14 hG, G_0_15 hG, G_0_16 hG, G_0_17 hG, G_1_0 hG, G_1_2 hG, G_1_5 hG, G_2_4 hG, G_2_5 hG, G_3_5 hG, G_3_6 hG, G_3_7 hG, G_3_8 hG, G_3_9 hG, G_5_0 hG, G_5_1 hG, G_6_0 hG, G_6_1 hG, G_6_2 hG, G_6_9 hG, G_6_10 hG, G_6_11 hG, G_6_12 hG, G_6_13 hG, G_7_0 hG, G_7_5 hG, G_8_8 hG, G_8_9 hG, G_9_8 hG, G_9_9 hG, G_10_7 hG, G_10_8 hG, G_10_9 hG, G_10_10 hG, G_10_11 hG, G_11_0 hG, G_12_2 hG, G_12_3 hG, G_12_4 hG, G_12_5 hG, G_12_7 hG, G_12_8 hG, G_12_9 hG, G_12_12 hG, G_12_13 hG, G_12_14 hG, G_12_22 hG, G_12_23 hG, G_12_29 hG, G_12_30 hG, G_12_31 hG, G_12_37 hG, G_12_38 hG, G_12_39 hG, G_12_40 hG, G_12_41 hG, G_12_43 hG, G_12_46 hG, G_12_47 hG, G_12_48 hG, G_25 hG, G_26 hG, G_47 hG, G_58 hG, n32_add, n32_mul, n32_lt, n32_le, n32_eq, n32_clamp, n32_inT, n32_div, n32_rem, n32_m1, n32_m1', n32_m1lt, n32_ltm1, n32_10, n32_01, Nat.not_lt_zero, Nat.lt_irrefl, Nat.mul_zero, Nat.zero_mul, Nat.zero_add, Nat.add_zero, Nat.reduceEqDiff, Nat.one_ne_zero, Nat.zero_ne_one, ax_psh_none, ax_psh_some, true_and, and_true, and_false, false_and, not_true_eq_false, not_false_eq_true, true_imp_iff, false_imp_iff, imp_self, or_true, true_or, or_false, false_or, and_self, ite_true, ite_false, if_true, if_false]
  exact hq _ (Fed_one h (by rw [hF]))
theorem pt_step16 {d l n : Nat} {x : Int32} {gi gi' : GI} {g : AG} {Q : Option AV → AH → Prop} {F : Nat → Nat} (hG : GOK g) (h : Fed gi gi' l n F) (hl : l + n < 400) (hF : F n = byt x 1) (hq : ∀ gi2, Fed gi gi2 l (n + 1) F → Runs d (m_S_putOnTape, 3, [some (.inr (.inr (some (0, 0)))), some (.inl x), some (.inl (n32 8))], []) (gi2, g) Q) : Runs d (m_S_putOnTape, 3, [some (.inr (.inr (some (0, 0)))), some (.inl x), some (.inl (n32 16))], []) (gi', g) Q := by
  have e4 := h.2.1
  have w4 : ∀ v, ax_wI gi' 22 0 (l + n) v 0 0 4 = n32 (l + n) := fun v => by rw [wI_ne (by decide), e4]
  rw [b_S_putOnTape_3]
  simp (disch := omega) only [b_S_putOnTape_7, b_S_putOnTape_17, e4, w4, hl, by_c16, show n32 16 + (-8) = n32 8 by decide, G_0_0 hG, G_0_1 hG, G_0_2 hG, G_0_3 hG, G_0_7 hG, G_0_10 hG, G_0_12 hG, G_0_13 hG, G_0_14 hG, G_0_15 hG, G_0_16 hG, G_0_17 hG, G_1_0 hG, G_1_2 hG, G_1_5 hG, G_2_4 hG, G_2_5 hG, G_3_5 hG, G_3_6 hG, G_3_7 hG, G_3_8 hG, G_3_9 hG, G_5_0 hG, G_5_1 hG, G_6_0 hG, G_6_1 hG, G_6_2 hG, G_6_9 hG, G_6_10 hG, G_6_11 hG, G_6_12 hG, G_6_13 hG, G_7_0 hG, G_7_5 hG, G_8_8 hG, G_8_9 hG, G_9_8 hG, G_9_9 hG, G_10_7 hG, G_10_8 hG, G_10_9 hG, G_10_10 hG, G_10_11 hG, G_11_0 hG, G_12_2 hG, G_12_3 hG, G_12_4 hG, G_12_5 hG, G_12_7 hG, G_12_8 hG, G_12_9 hG, G_12_12 hG, G_12_13 hG, G_12_14 hG, G_12_22 hG, G_12_23 hG, G_12_29 hG, G_12_30 hG, G_12_31 hG, G_12_37 hG, G_12_38 hG, G_12_39 hG, G_12_40 hG, G_12_41 hG, G_12_43 hG, G_12_46 hG, G_12_47 hG, G_12_48 hG, G_25 hG, G_26 hG, G_47 hG, G_58 hG, n32_add, n32_mul, n32_lt, n32_le, n32_eq, n32_clamp, n32_inT, n32_div, n32_rem, n32_m1, n32_m1', n32_m1lt, n32_ltm1, n32_10, n32_01, Nat.not_lt_zero, Nat.lt_irrefl, Nat.mul_zero, Nat.zero_mul, Nat.zero_add, Nat.add_zero, Nat.reduceEqDiff, Nat.one_ne_zero, Nat.zero_ne_one, ax_psh_none, ax_psh_some, true_and, and_true, and_false, false_and, not_true_eq_false, not_false_eq_true, true_imp_iff, false_imp_iff, imp_self, or_true, true_or, or_false, false_or, and_self, ite_true, ite_false, if_true, if_false]
  exact hq _ (Fed_one h (by rw [hF]))
theorem pt_step8 {d l n : Nat} {x : Int32} {gi gi' : GI} {g : AG} {Q : Option AV → AH → Prop} {F : Nat → Nat} (hG : GOK g) (h : Fed gi gi' l n F) (hl : l + n < 400) (hF : F n = byt x 2) (hq : ∀ gi2, Fed gi gi2 l (n + 1) F → Runs d (m_S_putOnTape, 3, [some (.inr (.inr (some (0, 0)))), some (.inl x), some (.inl (n32 0))], []) (gi2, g) Q) : Runs d (m_S_putOnTape, 3, [some (.inr (.inr (some (0, 0)))), some (.inl x), some (.inl (n32 8))], []) (gi', g) Q := by
  have e4 := h.2.1
  have w4 : ∀ v, ax_wI gi' 22 0 (l + n) v 0 0 4 = n32 (l + n) := fun v => by rw [wI_ne (by decide), e4]
  rw [b_S_putOnTape_3]
  simp (disch := omega) only [b_S_putOnTape_7, b_S_putOnTape_17, e4, w4, hl, by_c8, show n32 8 + (-8) = n32 0 by decide, G_0_0 hG, G_0_1 hG, G_0_2 hG, G_0_3 hG, G_0_7 hG, G_0_10 hG, G_0_12 hG, G_0_13 hG, G_0_14 hG, G_0_15 hG, G_0_16 hG, G_0_17 hG, G_1_0 hG, G_1_2 hG, G_1_5 hG, G_2_4 hG, G_2_5 hG, G_3_5 hG, G_3_6 hG, G_3_7 hG, G_3_8 hG, G_3_9 hG, G_5_0 hG, G_5_1 hG, G_6_0 hG, G_6_1 hG, G_6_2 hG, G_6_9 hG, G_6_10 hG, G_6_11 hG, G_6_12 hG, G_6_13 hG, G_7_0 hG, G_7_5 hG, G_8_8 hG, G_8_9 hG, G_9_8 hG, G_9_9 hG, G_10_7 hG, G_10_8 hG, G_10_9 hG, G_10_10 hG, G_10_11 hG, G_11_0 hG, G_12_2 hG, G_12_3 hG, G_12_4 hG, G_12_5 hG, G_12_7 hG, G_12_8 hG, G_12_9 hG, G_12_12 hG, G_12_13 hG, G_12_14 hG, G_12_22 hG, G_12_23 hG, G_12_29 hG, G_12_30 hG, G_12_31 hG, G_12_37 hG, G_12_38 hG, G_12_39 hG, G_12_40 hG, G_12_41 hG, G_12_43 hG, G_12_46 hG, G_12_47 hG, G_12_48 hG, G_25 hG, G_26 hG, G_47 hG, G_58 hG, n32_add, n32_mul, n32_lt, n32_le, n32_eq, n32_clamp, n32_inT, n32_div, n32_rem, n32_m1, n32_m1', n32_m1lt, n32_ltm1, n32_10, n32_01, Nat.not_lt_zero, Nat.lt_irrefl, Nat.mul_zero, Nat.zero_mul, Nat.zero_add, Nat.add_zero, Nat.reduceEqDiff, Nat.one_ne_zero, Nat.zero_ne_one, ax_psh_none, ax_psh_some, true_and, and_true, and_false, false_and, not_true_eq_false, not_false_eq_true, true_imp_iff, false_imp_iff, imp_self, or_true, true_or, or_false, false_or, and_self, ite_true, ite_false, if_true, if_false]
  exact hq _ (Fed_one h (by rw [hF]))
theorem pt_step0 {d l n : Nat} {x : Int32} {gi gi' : GI} {g : AG} {Q : Option AV → AH → Prop} {F : Nat → Nat} (hG : GOK g) (h : Fed gi gi' l n F) (hl : l + n < 400) (hF : F n = byt x 3) (hq : ∀ gi2, Fed gi gi2 l (n + 1) F → Runs d (m_S_putOnTape, 3, [some (.inr (.inr (some (0, 0)))), some (.inl x), some (.inl (-8))], []) (gi2, g) Q) : Runs d (m_S_putOnTape, 3, [some (.inr (.inr (some (0, 0)))), some (.inl x), some (.inl (n32 0))], []) (gi', g) Q := by
  have e4 := h.2.1
  have w4 : ∀ v, ax_wI gi' 22 0 (l + n) v 0 0 4 = n32 (l + n) := fun v => by rw [wI_ne (by decide), e4]
  rw [b_S_putOnTape_3]
  simp (disch := omega) only [b_S_putOnTape_7, b_S_putOnTape_17, e4, w4, hl, by_c0, show n32 0 + (-8) = -8 by decide, G_0_0 hG, G_0_1 hG, G_0_2 hG, G_0_3 hG, G_0_7 hG, G_0_10 hG, G_0_12 hG, G_0_13 hG, G_0_14 hG, G_0_15 hG, G_0_16 hG, G_0_17 hG, G_1_0 hG, G_1_2 hG, G_1_5 hG, G_2_4 hG, G_2_5 hG, G_3_5 hG, G_3_6 hG, G_3_7 hG, G_3_8 hG, G_3_9 hG, G_5_0 hG, G_5_1 hG, G_6_0 hG, G_6_1 hG, G_6_2 hG, G_6_9 hG, G_6_10 hG, G_6_11 hG, G_6_12 hG, G_6_13 hG, G_7_0 hG, G_7_5 hG, G_8_8 hG, G_8_9 hG, G_9_8 hG, G_9_9 hG, G_10_7 hG, G_10_8 hG, G_10_9 hG, G_10_10 hG, G_10_11 hG, G_11_0 hG, G_12_2 hG, G_12_3 hG, G_12_4 hG, G_12_5 hG, G_12_7 hG, G_12_8 hG, G_12_9 hG, G_12_12 hG, G_12_13 hG, G_12_14 hG, G_12_22 hG, G_12_23 hG, G_12_29 hG, G_12_30 hG, G_12_31 hG, G_12_37 hG, G_12_38 hG, G_12_39 hG, G_12_40 hG, G_12_41 hG, G_12_43 hG, G_12_46 hG, G_12_47 hG, G_12_48 hG, G_25 hG, G_26 hG, G_47 hG, G_58 hG, n32_add, n32_mul, n32_lt, n32_le, n32_eq, n32_clamp, n32_inT, n32_div, n32_rem, n32_m1, n32_m1', n32_m1lt, n32_ltm1, n32_10, n32_01, Nat.not_lt_zero, Nat.lt_irrefl, Nat.mul_zero, Nat.zero_mul, Nat.zero_add, Nat.add_zero, Nat.reduceEqDiff, Nat.one_ne_zero, Nat.zero_ne_one, ax_psh_none, ax_psh_some, true_and, and_true, and_false, false_and, not_true_eq_false, not_false_eq_true, true_imp_iff, false_imp_iff, imp_self, or_true, true_or, or_false, false_or, and_self, ite_true, ite_false, if_true, if_false]
  exact hq _ (Fed_one h (by rw [hF]))
theorem c_putOnTape {d l n : Nat} {x : Int32} {gi gi' : GI} {g : AG} {Q : Option AV → AH → Prop} {F : Nat → Nat} (hG : GOK g) (h : Fed gi gi' l n F) (hl : l + n + 4 ≤ 400) (hF : ∀ r, r < 4 → F (n + r) = byt x r) (hq : ∀ gi2, Fed gi gi2 l (n + 4) F → Q none (gi2, g)) : ax_call (d + 1) m_S_putOnTape [.inr (.inr (some (0, 0))), .inl x] (gi', g) Q := by
  rw [e_S_putOnTape, b_S_putOnTape_0]
  refine pt_step24 hG h (by omega) (hF 0 (by omega)) ?_
  intro gi2 h2
  refine pt_step16 hG h2 (by omega) (hF 1 (by omega)) ?_
  intro gi3 h3
  refine pt_step8 hG h3 (by omega) (hF 2 (by omega)) ?_
  intro gi4 h4
  refine pt_step0 hG h4 (by omega) (hF 3 (by omega)) ?_
  intro gi5 h5
  rw [b_S_putOnTape_3]
  simp (disch := omega) only [b_S_putOnTape_49, show (-8 : Int32) < n32 0 by decide, ax_psh_none, ax_psh_some, true_and, and_true, and_false, false_and, not_true_eq_false, not_false_eq_true, true_imp_iff, false_imp_iff, imp_self, or_true, true_or, or_false, false_or, and_self, ite_true, ite_false, if_true, if_false]
  exact hq gi5 h5
def xs5 (a b c e f : Int32) (i : Nat) : Int32 := match i with
  | 0 => a
  | 1 => b
  | 2 => c
  | 3 => e
  | _ => f
theorem fd_at (xs : Nat → Int32) (i r : Nat) (hr : r < 4) : fdB xs (4 * i + r) = byt (xs i) r := by
  unfold fdB
  rw [show (4 * i + r) / 4 = i by omega, show (4 * i + r) % 4 = r by omega]
theorem c_S_feed {d l : Nat} {a b c e f : Int32} {gi : GI} {g : AG} {Q : Option AV → AH → Prop} (hG : GOK g) (h4 : gi 0 0 4 = n32 l) (hl : l ≤ 380) (hq : ∀ gi2, Fed gi gi2 l 20 (fdB (xs5 a b c e f)) → Q (some (.inl (n32 (l + 20)))) (gi2, g)) : ax_call (d + 2) m_S_feed [.inr (.inr (some (0, 0))), .inl a, .inl b, .inl c, .inl e, .inl f] (gi, g) Q := by
  have h380 : ¬ 380 < l := by omega
  rw [e_S_feed, b_S_feed_0]
  simp (disch := omega) only [h4, h380, b_S_feed_12, n32_add, n32_mul, n32_lt, n32_le, n32_eq, n32_clamp, n32_inT, n32_div, n32_rem, n32_m1, n32_m1', n32_m1lt, n32_ltm1, n32_10, n32_01, Nat.not_lt_zero, Nat.lt_irrefl, Nat.mul_zero, Nat.zero_mul, Nat.zero_add, Nat.add_zero, Nat.reduceEqDiff, Nat.one_ne_zero, Nat.zero_ne_one, ax_psh_none, ax_psh_some, true_and, and_true, and_false, false_and, not_true_eq_false, not_false_eq_true, true_imp_iff, false_imp_iff, imp_self, or_true, true_or, or_false, false_or, and_self, ite_true, ite_false, if_true, if_false]
  have h0 : Fed gi gi l 0 (fdB (xs5 a b c e f)) := ⟨fun _ _ _ _ _ => rfl, h4, fun k hk => absurd hk (Nat.not_lt_zero k)⟩
  refine c_putOnTape hG h0 (by omega) (fun r hr => fd_at (xs5 a b c e f) 0 r hr) ?_
  intro gi1 h1
  simp only [b_S_feed_17, ax_psh_none, ax_psh_some, true_and, and_true, and_false, false_and, not_true_eq_false, not_false_eq_true, true_imp_iff, false_imp_iff, imp_self, or_true, true_or, or_false, false_or, and_self, ite_true, ite_false, if_true, if_false]
  refine c_putOnTape hG h1 (by omega) (fun r hr => fd_at (xs5 a b c e f) 1 r hr) ?_
  intro gi2 h2
  simp only [b_S_feed_22, ax_psh_none, ax_psh_some, true_and, and_true, and_false, false_and, not_true_eq_false, not_false_eq_true, true_imp_iff, false_imp_iff, imp_self, or_true, true_or, or_false, false_or, and_self, ite_true, ite_false, if_true, if_false]
  refine c_putOnTape hG h2 (by omega) (fun r hr => fd_at (xs5 a b c e f) 2 r hr) ?_
  intro gi3 h3
  simp only [b_S_feed_27, ax_psh_none, ax_psh_some, true_and, and_true, and_false, false_and, not_true_eq_false, not_false_eq_true, true_imp_iff, false_imp_iff, imp_self, or_true, true_or, or_false, false_or, and_self, ite_true, ite_false, if_true, if_false]
  refine c_putOnTape hG h3 (by omega) (fun r hr => fd_at (xs5 a b c e f) 3 r hr) ?_
  intro gi4 h4
  simp only [b_S_feed_33, ax_psh_none, ax_psh_some, true_and, and_true, and_false, false_and, not_true_eq_false, not_false_eq_true, true_imp_iff, false_imp_iff, imp_self, or_true, true_or, or_false, false_or, and_self, ite_true, ite_false, if_true, if_false]
  refine c_putOnTape hG h4 (by omega) (fun r hr => fd_at (xs5 a b c e f) 4 r hr) ?_
  intro gi5 h5
  simp only [b_S_feed_39, h5.2.1, ax_psh_none, ax_psh_some, true_and, and_true, and_false, false_and, not_true_eq_false, not_false_eq_true, true_imp_iff, false_imp_iff, imp_self, or_true, true_or, or_false, false_or, and_self, ite_true, ite_false, if_true, if_false]
  exact hq gi5 h5
theorem c_M_feed {d l : Nat} {a b c e f : Int32} {gi : GI} {g : AG} {Q : Option AV → AH → Prop} (hG : GOK g) (h4 : gi 12 0 10 = n32 l) (hl : l ≤ 380) (hq : ∀ gi2, (∀ s u j, s ≠ 69 → ¬ (s = 68 ∧ u = 0 ∧ l ≤ j ∧ j < l + 20) → ¬ (s = 12 ∧ u = 0 ∧ j = 10) → gi2 s u j = gi s u j) → gi2 12 0 10 = n32 (l + 20) → (∀ k, k < 20 → SB (gi2 68 0 (l + k)) (fdB (xs5 a b c e f) k)) → Q (some (.inl (n32 (l + 20)))) (gi2, g)) : ax_call (d + 1) m_M_feed [.inr (.inr (some (12, 0))), .inl a, .inl b, .inl c, .inl e, .inl f] (gi, g) Q := by
  have h380 : ¬ 400 < l + 20 := by omega
  have key := loop_up (n := 20) (P := fun i => ∀ (gi1 : GI) o1 o2 o3 o4 o5, (∀ s u j, s ≠ 69 → ¬ (s = 68 ∧ u = 0 ∧ l ≤ j ∧ j < l + 20) → gi1 s u j = gi s u j) → (∀ k, k < 5 → gi1 69 0 k = xs5 a b c e f k) → (∀ k, k < i → SB (gi1 68 0 (l + k)) (fdB (xs5 a b c e f) k)) → Runs d (m_M_feed, 55, [some (.inr (.inr (some (12, 0)))), o1, o2, o3, o4, o5, some (.inl (n32 i))], []) (gi1, g) Q) ?_ ?_
  · rw [e_M_feed, b_M_feed_0]
    simp (disch := omega) only [h4, h380, b_M_feed_15, G_0_0 hG, G_0_1 hG, G_0_2 hG, G_0_3 hG, G_0_7 hG, G_0_10 hG, G_0_12 hG, G_0_13 hG, G_0_14 hG, G_0_15 hG, G_0_16 hG, G_0_17 hG, G_1_0 hG, G_1_2 hG, G_1_5 hG, G_2_4 hG, G_2_5 hG, G_3_5 hG, G_3_6 hG, G_3_7 hG, G_3_8 hG, G_3_9 hG, G_5_0 hG, G_5_1 hG, G_6_0 hG, G_6_1 hG, G_6_2 hG, G_6_9 hG, G_6_10 hG, G_6_11 hG, G_6_12 hG, G_6_13 hG, G_7_0 hG, G_7_5 hG, G_8_8 hG, G_8_9 hG, G_9_8 hG, G_9_9 hG, G_10_7 hG, G_10_8 hG, G_10_9 hG, G_10_10 hG, G_10_11 hG, G_11_0 hG, G_12_2 hG, G_12_3 hG, G_12_4 hG, G_12_5 hG, G_12_7 hG, G_12_8 hG, G_12_9 hG, G_12_12 hG, G_12_13 hG, G_12_14 hG, G_12_22 hG, G_12_23 hG, G_12_29 hG, G_12_30 hG, G_12_31 hG, G_12_37 hG, G_12_38 hG, G_12_39 hG, G_12_40 hG, G_12_41 hG, G_12_43 hG, G_12_46 hG, G_12_47 hG, G_12_48 hG, G_25 hG, G_26 hG, G_47 hG, G_58 hG, n32_add, n32_mul, n32_lt, n32_le, n32_eq, n32_clamp, n32_inT, n32_div, n32_rem, n32_m1, n32_m1', n32_m1lt, n32_ltm1, n32_10, n32_01, Nat.not_lt_zero, Nat.lt_irrefl, Nat.mul_zero, Nat.zero_mul, Nat.zero_add, Nat.add_zero, Nat.reduceEqDiff, Nat.one_ne_zero, Nat.zero_ne_one, ax_psh_none, ax_psh_some, true_and, and_true, and_false, false_and, not_true_eq_false, not_false_eq_true, true_imp_iff, false_imp_iff, imp_self, or_true, true_or, or_false, false_or, and_self, ite_true, ite_false, if_true, if_false]
    refine key 0 (Nat.zero_le _) _ _ _ _ _ _ ?_ ?_ (fun k hk => absurd hk (Nat.not_lt_zero k))
    · intro s u j q1 q2
      rw [wI_ne q1, wI_ne q1, wI_ne q1, wI_ne q1, wI_ne q1]
    · intro k hk
      have cs : k = 0 ∨ k = 1 ∨ k = 2 ∨ k = 3 ∨ k = 4 := by omega
      rcases cs with rfl | rfl | rfl | rfl | rfl <;> simp [wI_at, xs5]
  · intro i hi ih gi1 o1 o2 o3 o4 o5 f1 f2 f3
    have e10 : gi1 12 0 10 = n32 l := (f1 12 0 10 (by decide) (by omega)).trans h4
    have z4 : ¬ n32 4 = n32 0 := by decide
    have e69 := f2 (i / 4) (by omega)
    rw [b_M_feed_55]
    simp (disch := omega) only [hi, n32_add, n32_mul, n32_lt, n32_le, n32_eq, n32_clamp, n32_inT, n32_div, n32_rem, n32_m1, n32_m1', n32_m1lt, n32_ltm1, n32_10, n32_01, Nat.not_lt_zero, Nat.lt_irrefl, Nat.mul_zero, Nat.zero_mul, Nat.zero_add, Nat.add_zero, Nat.reduceEqDiff, Nat.one_ne_zero, Nat.zero_ne_one, ax_psh_none, ax_psh_some, true_and, and_true, and_false, false_and, not_true_eq_false, not_false_eq_true, true_imp_iff, false_imp_iff, imp_self, or_true, true_or, or_false, false_or, and_self, ite_true, ite_false, if_true, if_false]
    rw [b_M_feed_62, n32_rem (by omega) (by omega), n32_div (by omega) (by omega), e10, n32_add, n32_clamp (by omega), n32_clamp (by omega), n32_inT (by omega) (by omega), n32_inT (by omega) (by omega), e69, n32_add]
    refine ⟨G_12_8 hG 0, G_12_9 hG 0, z4, trivial, z4, trivial, ?_⟩
    refine ih _ _ _ _ _ _ ?_ ?_ ?_
    · intro s u j q1 q2
      rw [wI_at, if_neg (by omega)]
      exact f1 s u j q1 q2
    · intro k hk
      rw [wI_ne (by decide)]
      exact f2 k hk
    · intro k hk
      rw [wI_at]
      by_cases z : k = i
      · rw [if_pos ⟨rfl, rfl, by omega⟩, z]
        exact by_mr _ (Nat.mod_lt _ (by decide))
      · rw [if_neg (by omega)]
        exact f3 k (by omega)
  · intro gi1 o1 o2 o3 o4 o5 f1 f2 f3
    have e10 : gi1 12 0 10 = n32 l := (f1 12 0 10 (by decide) (by omega)).trans h4
    rw [b_M_feed_55]
    simp (disch := omega) only [b_M_feed_101, e10, wI_self, n32_add, n32_mul, n32_lt, n32_le, n32_eq, n32_clamp, n32_inT, n32_div, n32_rem, n32_m1, n32_m1', n32_m1lt, n32_ltm1, n32_10, n32_01, Nat.not_lt_zero, Nat.lt_irrefl, Nat.mul_zero, Nat.zero_mul, Nat.zero_add, Nat.add_zero, Nat.reduceEqDiff, Nat.one_ne_zero, Nat.zero_ne_one, ax_psh_none, ax_psh_some, true_and, and_true, and_false, false_and, not_true_eq_false, not_false_eq_true, true_imp_iff, false_imp_iff, imp_self, or_true, true_or, or_false, false_or, and_self, ite_true, ite_false, if_true, if_false]
    refine hq _ ?_ ?_ ?_
    · intro s u j q1 q2 q3
      rw [wI_at, if_neg q3]
      exact f1 s u j q1 q2
    · rw [wI_self]
    · intro k hk
      rw [wI_ne (by decide)]
      exact f3 k hk
/-- the tape alone has changed -/
theorem tp_end {n : Nat} {gi gi' : GI} {g : AG} {Ls : Nat → List PC} {Q : Option AV → Option AV → AH → Prop} (hC : Core n gi g Ls) (hQ : ∀ v gi' g' Ls', Core (n + 1) gi' g' Ls' → Step gi gi' → ((gi' 0 0 9 = gi 0 0 9 + n32 1) ∨ Ls' = Ls) → Q (some (.inl v)) (some (.inl v)) (gi', g')) (h1 : ∀ s a j, s ≠ 69 → s ≠ 22 → s ≠ 68 → ¬ (s = 0 ∧ a = 0 ∧ j = 4) → ¬ (s = 12 ∧ a = 0 ∧ j = 10) → gi' s a j = gi s a j) {len : Nat} {B : Nat → Nat} (hl : len ≤ 400) (hc : gi' 0 0 4 = n32 len) (hm : gi' 12 0 10 = n32 len) (tc : TapeC gi' B) (tm : TapeM gi' B) (v : Int32) : Q (some (.inl v)) (some (.inl v)) (gi', g) := by
  have hf : FrB gi gi' := fun s a j q1 q2 q3 q4 q5 q6 q7 q8 q9 q10 q11 q12 => h1 s a j q11 q6 q10 (by omega) (by omega)
  have hG := hC.1.1
  have e : ∀ s a j, s = 64 ∨ s = 1 ∨ s = 28 ∨ s = 2 ∨ s = 29 ∨ s = 30 ∨ s = 4 ∨ s = 60 ∨ s = 61 ∨ s = 62 → gi' s a j = gi s a j := fun s a j q => h1 s a j (by omega) (by omega) (by omega) (by omega) (by omega)
  obtain ⟨len0, v0, dd, B0, hv, ⟨a1, a2, a3⟩, ⟨b1, b2, b3⟩, ⟨c0, c1, c2, c3, c4⟩, ⟨e1, e2⟩, ⟨f1, f2, f3, f4⟩, t1, t2⟩ := hC.2.2.2.2.2
  have o : ∀ s a j, s = 23 ∨ s = 63 ∨ s = 24 ∨ s = 85 ∨ (s = 0 ∧ j ≠ 4) ∨ (s = 12 ∧ j ≠ 10) → gi' s a j = gi s a j := fun s a j q => h1 s a j (by omega) (by omega) (by omega) (by omega) (by omega)
  refine hQ v gi' g Ls (Core_B hC hf (BooksR_same hG hC.2.1 e) ⟨len, v0, dd, B, by omega, ⟨hl, hc, hm⟩, ⟨?_, ?_, ?_⟩, ⟨?_, ?_, ?_, ?_, ?_⟩, ⟨?_, ?_⟩, ⟨f1, ?_, ?_, fun i hi => ?_⟩, tc, tm⟩) ⟨FrB_Sr hf, Or.inl ⟨o 0 0 9 (by omega), o 12 0 1 (by omega), fun j => e 64 0 j (by omega)⟩⟩ (Or.inr rfl)
  · rw [o 0 0 5 (by omega), o 12 0 11 (by omega), b1]
  · rw [o 0 0 6 (by omega), o 12 0 6 (by omega), b2]
  · rw [o 0 0 8 (by omega), o 12 0 0 (by omega), b3]
  · rw [o 23 0 _ (by omega), o 63 0 _ (by omega), c0]
  · rw [o 23 0 _ (by omega), o 63 0 _ (by omega), c1]
  · rw [o 23 0 _ (by omega), o 63 0 _ (by omega), c2]
  · rw [o 23 0 _ (by omega), o 63 0 _ (by omega), c3]
  · rw [o 23 0 _ (by omega), o 63 0 _ (by omega), c4]
  · rw [o 0 0 9 (by omega), e1]
  · rw [o 12 0 1 (by omega), e2]
  · rw [o 0 0 11 (by omega), f2]
  · rw [o 12 0 49 (by omega), f3]
  · rw [o 24 0 i (by omega), o 85 0 i (by omega), f4 i hi]
theorem op_feed (a b c e f : Int32) : Op m_S_feed m_M_feed [.inl a, .inl b, .inl c, .inl e, .inl f] := by
  intro D n gi g Ls Q hD hn hC hQ
  obtain ⟨d, rfl⟩ : ∃ d2, D = d2 + 2 := ⟨D - 2, by omega⟩
  have hG := hC.1.1
  obtain ⟨len, v, dd, B, hv, ⟨a1, a2, a3⟩, hM2, hM3, hM4, hM5, t1, t2⟩ := hC.2.2.2.2.2
  by_cases hl : len ≤ 380
  · refine c_S_feed hG a2 hl ?_
    intro gi1 h1
    have e10 : gi1 12 0 10 = n32 len := (h1.1 12 0 10 (by omega) (by omega)).trans a3
    refine c_M_feed (d := d + 1) hG e10 hl ?_
    intro gi2 f1 f2 f3
    refine tp_end hC hQ (B := fun i => if len ≤ i ∧ i < len + 20 then fdB (xs5 a b c e f) (i - len) else B i) ?_ (by omega : len + 20 ≤ 400) ?_ f2 ?_ ?_ _
    · intro s u j q1 q2 q3 q4 q5
      rw [f1 s u j q1 (by omega) q5]
      exact h1.1 s u j (by omega) q4
    · rw [f1 0 0 4 (by decide) (by omega) (by omega)]
      exact h1.2.1
    · intro i hi
      rw [f1 22 0 i (by decide) (by omega) (by omega)]
      by_cases z : len ≤ i ∧ i < len + 20
      · simp only [if_pos z]
        have := h1.2.2 (i - len) (by omega)
        rw [show len + (i - len) = i by omega] at this
        exact ⟨this, byt_lt _ _⟩
      · simp only [if_neg z]
        rw [h1.1 22 0 i (by omega) (by omega)]
        exact t1 i hi
    · intro i hi
      by_cases z : len ≤ i ∧ i < len + 20
      · simp only [if_pos z]
        have := f3 (i - len) (by omega)
        rw [show len + (i - len) = i by omega] at this
        exact this
      · simp only [if_neg z]
        rw [f1 68 0 i (by decide) (by omega) (by omega), h1.1 68 0 i (by omega) (by omega)]
        exact t2 i hi
  · have q1 : 380 < len := by omega
    have q2 : 400 < len + 20 := by omega
    simp (disch := omega) only [e_S_feed, b_S_feed_0, b_S_feed_10, e_M_feed, b_M_feed_0, b_M_feed_13, a2, a3, q1, q2, n32_add, n32_mul, n32_lt, n32_le, n32_eq, n32_clamp, n32_inT, n32_div, n32_rem, n32_m1, n32_m1', n32_m1lt, n32_ltm1, n32_10, n32_01, Nat.not_lt_zero, Nat.lt_irrefl, Nat.mul_zero, Nat.zero_mul, Nat.zero_add, Nat.add_zero, Nat.reduceEqDiff, Nat.one_ne_zero, Nat.zero_ne_one, ax_psh_none, ax_psh_some, true_and, and_true, and_false, false_and, not_true_eq_false, not_false_eq_true, true_imp_iff, false_imp_iff, imp_self, or_true, true_or, or_false, false_or, and_self, ite_true, ite_false, if_true, if_false]
    exact op_end (D := d) (Core_same hC) hQ _
theorem op_endn (x : Int32) : Op m_S_end m_M_end [.inl x] := by
  intro D n gi g Ls Q hD hn hC hQ
  obtain ⟨d, rfl⟩ : ∃ d2, D = d2 + 2 := ⟨D - 2, by omega⟩
  have hG := hC.1.1
  obtain ⟨len, v, dd, B, hv, ⟨a1, a2, a3⟩, hM2, hM3, hM4, hM5, t1, t2⟩ := hC.2.2.2.2.2
  rcases win_cases2 x 0 len (by omega) (by omega) with ⟨k, -, hk, rfl⟩ | hw
  · have e10 : ax_wI gi 0 0 4 (n32 k) 12 0 10 = n32 len := by rw [wI_ne (by decide), a3]
    simp (disch := omega) only [e_S_end, b_S_end_0, b_S_end_9, b_S_end_12, b_S_end_14, e_M_end, b_M_end_0, b_M_end_9, b_M_end_12, b_M_end_14, c_S_within, c_M_lies, a2, e10, win_T, n32_add, n32_mul, n32_lt, n32_le, n32_eq, n32_clamp, n32_inT, n32_div, n32_rem, n32_m1, n32_m1', n32_m1lt, n32_ltm1, n32_10, n32_01, Nat.not_lt_zero, Nat.lt_irrefl, Nat.mul_zero, Nat.zero_mul, Nat.zero_add, Nat.add_zero, Nat.reduceEqDiff, Nat.one_ne_zero, Nat.zero_ne_one, ax_psh_none, ax_psh_some, true_and, and_true, and_false, false_and, not_true_eq_false, not_false_eq_true, true_imp_iff, false_imp_iff, imp_self, or_true, true_or, or_false, false_or, and_self, ite_true, ite_false, if_true, if_false]
    refine tp_end hC hQ (len := k) (B := B) ?_ (by omega) ?_ ?_ ?_ ?_ _
    · intro s u j q1 q2 q3 q4 q5
      rw [wI_at, if_neg q5, wI_at, if_neg q4]
    · rw [wI_ne (by decide), wI_self]
    · rw [wI_self]
    · intro i hi
      rw [wI_ne (by decide), wI_ne (by decide)]
      exact t1 i hi
    · intro i hi
      rw [wI_ne (by decide), wI_ne (by decide)]
      exact t2 i hi
  · simp (disch := omega) only [e_S_end, b_S_end_0, b_S_end_9, b_S_end_12, b_S_end_14, e_M_end, b_M_end_0, b_M_end_9, b_M_end_12, b_M_end_14, c_S_within, c_M_lies, a2, a3, hw, n32_add, n32_mul, n32_lt, n32_le, n32_eq, n32_clamp, n32_inT, n32_div, n32_rem, n32_m1, n32_m1', n32_m1lt, n32_ltm1, n32_10, n32_01, Nat.not_lt_zero, Nat.lt_irrefl, Nat.mul_zero, Nat.zero_mul, Nat.zero_add, Nat.add_zero, Nat.reduceEqDiff, Nat.one_ne_zero, Nat.zero_ne_one, ax_psh_none, ax_psh_some, true_and, and_true, and_false, false_and, not_true_eq_false, not_false_eq_true, true_imp_iff, false_imp_iff, imp_self, or_true, true_or, or_false, false_or, and_self, ite_true, ite_false, if_true, if_false]
    exact op_end (D := d) (Core_same hC) hQ _
