/-! free, on both: where both stand then -/
/-- Core, where what the searches keep may have changed -/
theorem Core_s {n : Nat} {gi gi' : GI} {g g' : AG} {Ls : Nat → List PC} (h : Core n gi g Ls) (hf : ∀ s a j, (s = 100 ∨ s = 101 ∨ s = 103 ∨ s = 67 ∨ s = 66 ∨ s = 65 ∨ s = 4 ∨ s = 60 ∨ s = 61 ∨ s = 62 ∨ s = 1 ∨ s = 28 ∨ s = 2 ∨ s = 29 ∨ s = 30 ∨ s = 64 ∨ s = 0 ∨ s = 22 ∨ s = 23 ∨ s = 24 ∨ s = 63 ∨ s = 68 ∨ s = 85 ∨ (s = 12 ∧ (j < 15 ∨ j = 49))) → gi' s a j = gi s a j) (hg : GF g g') (hp : ∀ t, t < 6 → PaperInv gi' t) (hs : ∃ s, s ≤ 300 * (n + 1) ∧ Stamps gi' s) : Core (n + 1) gi' g' Ls := by
  obtain ⟨len, v, dd, B, hv, ⟨a1, a2, a3⟩, ⟨m1, m2, m3⟩, hM3, ⟨e1, e2⟩, ⟨d1, d2, d3, d4⟩, t1, t2⟩ := h.2.2.2.2.2
  refine Core_mk h (fun s a j q => hf s a j (by omega)) hg (BooksR_of h.2.1 (fun j _ => hf 64 0 j (by omega)) (fun s a j q => hf s a j (by omega)) hg) hp hs ⟨len, v, dd, B, by omega, ⟨a1, (hf 0 0 4 (by omega)).trans a2, (hf 12 0 10 (by omega)).trans a3⟩, ⟨?_, ?_, ?_⟩, ⟨?_, ?_, ?_, ?_, ?_⟩, ⟨(hf 0 0 9 (by omega)).trans e1, (hf 12 0 1 (by omega)).trans e2⟩, ⟨d1, (hf 0 0 11 (by omega)).trans d2, (hf 12 0 49 (by omega)).trans d3, fun i hi => ?_⟩, fun i hi => ?_, fun i hi => ?_⟩
  · rw [hf 0 0 5 (by omega), hf 12 0 11 (by omega), m1]
  · rw [hf 0 0 6 (by omega), hf 12 0 6 (by omega), m2]
  · rw [hf 0 0 8 (by omega), hf 12 0 0 (by omega), m3]
  · rw [hf 23 0 _ (by omega), hf 63 0 _ (by omega), hM3.1]
  · rw [hf 23 0 _ (by omega), hf 63 0 _ (by omega), hM3.2.1]
  · rw [hf 23 0 _ (by omega), hf 63 0 _ (by omega), hM3.2.2.1]
  · rw [hf 23 0 _ (by omega), hf 63 0 _ (by omega), hM3.2.2.2.1]
  · rw [hf 23 0 _ (by omega), hf 63 0 _ (by omega), hM3.2.2.2.2]
  · rw [hf 24 0 i (by omega), hf 85 0 i (by omega), d4 i hi]
  · rw [hf 22 0 i (by omega)]
    exact t1 i hi
  · rw [hf 68 0 i (by omega)]
    exact t2 i hi
theorem cfMod_no {s j : Nat} (h : ¬ (s = 3 ∨ s = 5 ∨ s = 7 ∨ (39 ≤ s ∧ s ≤ 42) ∨ (54 ≤ s ∧ s ≤ 59) ∨ s = 8 ∨ s = 43 ∨ s = 44)) : cfMod s j = false := by
  cases hz : cfMod s j with
  | false => rfl
  | true =>
    exfalso
    unfold cfMod at hz
    have hb : ∀ x y : Nat, Nat.ble x y = true ↔ x ≤ y := fun x y => by rw [Nat.ble_eq]
    simp only [Bool.or_eq_true, Bool.and_eq_true, beq_iff_eq, hb] at hz
    omega
theorem mgMod_no {s j : Nat} (h : ¬ ((s = 12 ∧ ((15 ≤ j ∧ j ≤ 28) ∨ (32 ≤ j ∧ j ≤ 36))) ∨ s = 73 ∨ s = 74 ∨ s = 77)) : mgMod s j = false := by
  cases hz : mgMod s j with
  | false => rfl
  | true =>
    exfalso
    unfold mgMod at hz
    have hb : ∀ x y : Nat, Nat.ble x y = true ↔ x ≤ y := fun x y => by rw [Nat.ble_eq]
    simp only [Bool.or_eq_true, Bool.and_eq_true, beq_iff_eq, hb] at hz
    omega
theorem op_free {D n v : Nat} {x y z : Int32} {gi : GI} {g : AG} {Ls : Nat → List PC} {Q : Option AV → Option AV → AH → Prop} (hD : 70 ≤ D) (hn : n < 520) (hC : Core n gi g Ls) (h9 : gi 0 0 9 = n32 v) (h1 : gi 12 0 1 = n32 v) (hv : v ≤ 1000) (hF : SF gi Ls v) (hM : SM gi Ls v)
    (hQ : ∀ r gi' g', Core (n + 1) gi' g' Ls → (∀ s a j, s = 0 ∨ s = 64 ∨ s = 9 ∨ s = 10 ∨ (45 ≤ s ∧ s ≤ 52) ∨ (s = 12 ∧ j < 15) → gi' s a j = gi s a j) → SF gi' Ls v → SM gi' Ls v → Q (some (.inl r)) (some (.inl r)) (gi', g')) :
    ax_call D m_S_free [.inr (.inr (some (0, 0))), .inl x, .inl y, .inl z] (gi, g) (fun r h => ax_call D m_M_free [.inr (.inr (some (12, 0))), .inl x, .inl y, .inl z] h (fun r' h' => Q r r' h')) := by
  obtain ⟨d, rfl⟩ : ∃ d2, D = d2 + 50 := ⟨D - 50, by omega⟩
  obtain ⟨nt, m, s, hB, hG, b1, n6, hTh, hPI, hs2, hs, k796⟩ := ask_of hC
  have same : Q (some (.inl (-1))) (some (.inl (-1))) (gi, g) := hQ _ gi g (Core_same hC).1 (fun _ _ _ _ => rfl) hF hM
  rcases win_cases x nt (by omega) with ⟨t, ht, rfl⟩ | hx
  · rcases win_cases2 y 0 9 (by omega) (by omega) with ⟨p, -, hp, rfl⟩ | hy
    · rcases win_cases2 z 0 4 (by omega) (by omega) with ⟨w, -, hw, rfl⟩ | hz
      · have hv' := thing_b hB ht
        have h64 := wt64 hv'.1.2.2.2.1.2 hv'.1.2.2.2.2.1.2
        have hle := frK_le (K := gi 64 0) (Ls := Ls) (t := t) (p := p) h64
        refine c_S_free (d := d + 39) hB hPI hs (by omega) ht hp hw h9 hv hF ?_
        intro gi1 g1 s' fr1 gf1 hPI1 hs' hS1 hF1
        have hG1 := gf1.2.1
        have e64 : gi1 64 0 = gi 64 0 := funext (fun j => fr1 64 0 j rfl)
        have hB1 : BK gi1 g1 Ls nt m (gi1 64 0) := by
          rw [e64]
          obtain ⟨-, -, q3, q4, q5⟩ := hB
          exact ⟨e64, hG1, BooksN_of q3 (fun j _ _ => rfl) (fun s j q => by rcases q with rfl | rfl <;> exact fr1 _ _ _ rfl), ThingsR_of q4 q3.1 (fun j _ => rfl) (fun s a j q => by rcases q with rfl | rfl | rfl <;> exact fr1 _ _ _ rfl), LawsR_of q5 q3.2.1 (fun j _ _ => rfl) (fun s a j q => by rcases q with rfl | rfl | rfl | rfl <;> exact fr1 _ _ _ rfl) gf1⟩
        have hM1 : SM gi1 Ls v := SM_of hM (fun j _ _ => fr1 12 0 j rfl) (fun j => fr1 77 0 j rfl) (fun j => fr1 64 0 j rfl)
        have e1 : gi1 12 0 1 = n32 v := (fr1 12 0 1 rfl).trans h1
        have k1 : gi1 64 0 796 = n32 nt := (fr1 64 0 796 rfl).trans k796
        rw [e_M_free]
        simp (disch := omega) only [b_M_free_0, b_M_free_5, b_M_free_8, b_M_free_15, b_M_free_18, b_M_free_24, b_M_free_29, c_M_isThing _ _ _ _ hG1, k1, win_sT ht (by omega), c_M_lies, win_T, n32_add, n32_mul, n32_lt, n32_le, n32_eq, n32_clamp, n32_inT, n32_div, n32_rem, n32_m1, n32_m1', n32_m1lt, n32_ltm1, n32_10, n32_01, Nat.not_lt_zero, Nat.lt_irrefl, Nat.mul_zero, Nat.zero_mul, Nat.zero_add, Nat.add_zero, Nat.reduceEqDiff, Nat.one_ne_zero, Nat.zero_ne_one, ax_psh_none, ax_psh_some, true_and, and_true, and_false, false_and, not_true_eq_false, not_false_eq_true, true_imp_iff, false_imp_iff, imp_self, or_true, true_or, or_false, false_or, and_self, ite_true, ite_false, if_true, if_false]
        refine c_M_frees (d := d) hB1 ht hp e1 hv hM1 ?_
        intro gi2 fr2 hM2 hFM
        rw [e64] at hFM
        simp only [ax_psh_none]
        rw [fa_m hG1 hFM hle hw]
        refine hQ _ gi2 g1 (Core_s hC (fun s a j q => ?_) gf1 (fun u hu => PaperInv_of (hPI1 u hu) (fun j => fr2 3 u j rfl) (fun a j => fr2 59 a j rfl)) ⟨s', by omega, Stamps_of hS1 (fr2 7 0 4 rfl) (fun j => fr2 39 0 j rfl)⟩) (fun s a j q => ?_) (SF_of hF1 (fun j => fr2 8 0 j rfl) (fun j => fr2 44 0 j rfl) (fun j => fr2 64 0 j rfl)) hM2
        · rw [fr2 s a j (mgMod_no (by omega)), fr1 s a j (cfMod_no (by omega))]
        · rw [fr2 s a j (mgMod_no (by omega)), fr1 s a j (cfMod_no (by omega))]
      · simp (disch := omega) only [e_S_free, b_S_free_0, b_S_free_7, b_S_free_10, b_S_free_16, b_S_free_19, e_M_free, b_M_free_0, b_M_free_5, b_M_free_8, b_M_free_15, b_M_free_18, b_M_free_24, b_M_free_27, c_S_within, c_M_lies, c_M_isThing _ _ _ _ hG, k796, win_sT ht (by omega), win_T, hz, n32_add, n32_mul, n32_lt, n32_le, n32_eq, n32_clamp, n32_inT, n32_div, n32_rem, n32_m1, n32_m1', n32_m1lt, n32_ltm1, n32_10, n32_01, Nat.not_lt_zero, Nat.lt_irrefl, Nat.mul_zero, Nat.zero_mul, Nat.zero_add, Nat.add_zero, Nat.reduceEqDiff, Nat.one_ne_zero, Nat.zero_ne_one, ax_psh_none, ax_psh_some, true_and, and_true, and_false, false_and, not_true_eq_false, not_false_eq_true, true_imp_iff, false_imp_iff, imp_self, or_true, true_or, or_false, false_or, and_self, ite_true, ite_false, if_true, if_false]
        exact same
    · simp (disch := omega) only [e_S_free, b_S_free_0, b_S_free_7, b_S_free_19, e_M_free, b_M_free_0, b_M_free_5, b_M_free_8, b_M_free_15, b_M_free_27, c_S_within, c_M_lies, c_M_isThing _ _ _ _ hG, k796, win_sT ht (by omega), win_T, hy, n32_add, n32_mul, n32_lt, n32_le, n32_eq, n32_clamp, n32_inT, n32_div, n32_rem, n32_m1, n32_m1', n32_m1lt, n32_ltm1, n32_10, n32_01, Nat.not_lt_zero, Nat.lt_irrefl, Nat.mul_zero, Nat.zero_mul, Nat.zero_add, Nat.add_zero, Nat.reduceEqDiff, Nat.one_ne_zero, Nat.zero_ne_one, ax_psh_none, ax_psh_some, true_and, and_true, and_false, false_and, not_true_eq_false, not_false_eq_true, true_imp_iff, false_imp_iff, imp_self, or_true, true_or, or_false, false_or, and_self, ite_true, ite_false, if_true, if_false]
      exact same
  · have mod : ax_call (d + 50) m_M_free [.inr (.inr (some (12, 0))), .inl x, .inl y, .inl z] (gi, g) (fun r' h' => Q (some (.inl (-1))) r' h') := by
      simp (disch := omega) only [e_M_free, b_M_free_0, b_M_free_5, b_M_free_27, c_M_isThing _ _ _ _ hG, k796, hx, n32_add, n32_mul, n32_lt, n32_le, n32_eq, n32_clamp, n32_inT, n32_div, n32_rem, n32_m1, n32_m1', n32_m1lt, n32_ltm1, n32_10, n32_01, Nat.not_lt_zero, Nat.lt_irrefl, Nat.mul_zero, Nat.zero_mul, Nat.zero_add, Nat.add_zero, Nat.reduceEqDiff, Nat.one_ne_zero, Nat.zero_ne_one, ax_psh_none, ax_psh_some, true_and, and_true, and_false, false_and, not_true_eq_false, not_false_eq_true, true_imp_iff, false_imp_iff, imp_self, or_true, true_or, or_false, false_or, and_self, ite_true, ite_false, if_true, if_false]
      exact same
    rcases win_cases2 y 0 9 (by omega) (by omega) with ⟨p, -, hp, rfl⟩ | hy
    · rcases win_cases2 z 0 4 (by omega) (by omega) with ⟨w, -, hw, rfl⟩ | hz
      · have hno : ¬ (gi 8 0 2 = x ∧ gi 8 0 3 = n32 p ∧ gi 8 0 4 = n32 v) := by
          intro q
          obtain ⟨t', p', a1, a2, a3, a4, a5⟩ := hF.2 q.2.2
          rw [k796, cl_n (by omega)] at a1
          exact win_subout (by omega) hx t' a1 (q.1.symm.trans a3)
        rw [e_S_free]
        simp (disch := omega) only [b_S_free_0, b_S_free_7, b_S_free_10, b_S_free_16, b_S_free_21, c_S_within, win_T, c_isOf, h9, hno, decide_false, G_0_0 hG, G_0_1 hG, G_0_2 hG, G_0_3 hG, G_0_7 hG, G_0_10 hG, G_0_12 hG, G_0_13 hG, G_0_14 hG, G_0_15 hG, G_0_16 hG, G_0_17 hG, G_1_0 hG, G_1_2 hG, G_1_5 hG, G_2_4 hG, G_2_5 hG, G_3_5 hG, G_3_6 hG, G_3_7 hG, G_3_8 hG, G_3_9 hG, G_5_0 hG, G_5_1 hG, G_6_0 hG, G_6_1 hG, G_6_2 hG, G_6_9 hG, G_6_10 hG, G_6_11 hG, G_6_12 hG, G_6_13 hG, G_7_0 hG, G_7_5 hG, G_8_8 hG, G_8_9 hG, G_9_8 hG, G_9_9 hG, G_10_7 hG, G_10_8 hG, G_10_9 hG, G_10_10 hG, G_10_11 hG, G_11_0 hG, G_12_2 hG, G_12_3 hG, G_12_4 hG, G_12_5 hG, G_12_7 hG, G_12_8 hG, G_12_9 hG, G_12_12 hG, G_12_13 hG, G_12_14 hG, G_12_22 hG, G_12_23 hG, G_12_29 hG, G_12_30 hG, G_12_31 hG, G_12_37 hG, G_12_38 hG, G_12_39 hG, G_12_40 hG, G_12_41 hG, G_12_43 hG, G_12_46 hG, G_12_47 hG, G_12_48 hG, G_25 hG, G_26 hG, G_47 hG, G_58 hG, n32_add, n32_mul, n32_lt, n32_le, n32_eq, n32_clamp, n32_inT, n32_div, n32_rem, n32_m1, n32_m1', n32_m1lt, n32_ltm1, n32_10, n32_01, Nat.not_lt_zero, Nat.lt_irrefl, Nat.mul_zero, Nat.zero_mul, Nat.zero_add, Nat.add_zero, Nat.reduceEqDiff, Nat.one_ne_zero, Nat.zero_ne_one, ax_psh_none, ax_psh_some, true_and, and_true, and_false, false_and, not_true_eq_false, not_false_eq_true, true_imp_iff, false_imp_iff, imp_self, or_true, true_or, or_false, false_or, and_self, ite_true, ite_false, if_true, if_false]
        simp (disch := omega) only [b_S_free_34, b_S_free_37, b_S_free_42a, b_S_free_49, b32, Bool.false_eq_true, c_paperOf_n (d + 44) _ _ _ hG b1 hx, n32_add, n32_mul, n32_lt, n32_le, n32_eq, n32_clamp, n32_inT, n32_div, n32_rem, n32_m1, n32_m1', n32_m1lt, n32_ltm1, n32_10, n32_01, Nat.not_lt_zero, Nat.lt_irrefl, Nat.mul_zero, Nat.zero_mul, Nat.zero_add, Nat.add_zero, Nat.reduceEqDiff, Nat.one_ne_zero, Nat.zero_ne_one, ax_psh_none, ax_psh_some, true_and, and_true, and_false, false_and, not_true_eq_false, not_false_eq_true, true_imp_iff, false_imp_iff, imp_self, or_true, true_or, or_false, false_or, and_self, ite_true, ite_false, if_true, if_false]
        exact mod
      · simp (disch := omega) only [e_S_free, b_S_free_0, b_S_free_7, b_S_free_10, b_S_free_16, b_S_free_19, c_S_within, win_T, hz, n32_add, n32_mul, n32_lt, n32_le, n32_eq, n32_clamp, n32_inT, n32_div, n32_rem, n32_m1, n32_m1', n32_m1lt, n32_ltm1, n32_10, n32_01, Nat.not_lt_zero, Nat.lt_irrefl, Nat.mul_zero, Nat.zero_mul, Nat.zero_add, Nat.add_zero, Nat.reduceEqDiff, Nat.one_ne_zero, Nat.zero_ne_one, ax_psh_none, ax_psh_some, true_and, and_true, and_false, false_and, not_true_eq_false, not_false_eq_true, true_imp_iff, false_imp_iff, imp_self, or_true, true_or, or_false, false_or, and_self, ite_true, ite_false, if_true, if_false]
        exact mod
    · simp (disch := omega) only [e_S_free, b_S_free_0, b_S_free_7, b_S_free_19, c_S_within, win_T, hy, n32_add, n32_mul, n32_lt, n32_le, n32_eq, n32_clamp, n32_inT, n32_div, n32_rem, n32_m1, n32_m1', n32_m1lt, n32_ltm1, n32_10, n32_01, Nat.not_lt_zero, Nat.lt_irrefl, Nat.mul_zero, Nat.zero_mul, Nat.zero_add, Nat.add_zero, Nat.reduceEqDiff, Nat.one_ne_zero, Nat.zero_ne_one, ax_psh_none, ax_psh_some, true_and, and_true, and_false, false_and, not_true_eq_false, not_false_eq_true, true_imp_iff, false_imp_iff, imp_self, or_true, true_or, or_false, false_or, and_self, ite_true, ite_false, if_true, if_false]
      exact mod
