/-! the inspector -/
theorem allN_up1 {p : Nat → Bool} {n : Nat} (h : allN n p = true) (hp : p n = true) : allN (n + 1) p = true := by
  unfold allN
  rw [h, hp]
  rfl
def cei (W r : Nat) : Nat := (W + r - 1) / r
theorem cei_chk : allN 9 (fun W => allN 9 (fun r => (W == 0) || (r == 0) || (Nat.ble 1 (cei W r) && Nat.ble (cei W r) 8 && allN W (fun y => Nat.blt (y / r) (cei W r))))) = true := by decide +kernel
theorem cei_ok {W r : Nat} (hW : 1 ≤ W ∧ W ≤ 8) (hr : 1 ≤ r ∧ r ≤ 8) : (1 ≤ cei W r ∧ cei W r ≤ 8) ∧ ∀ y, y < W → y / r < cei W r := by
  have h := allN_at (allN_at cei_chk W (by omega)) r (by omega)
  simp only [Bool.or_eq_true, beq_iff_eq, Bool.and_eq_true, Nat.ble_eq] at h
  rcases h with (h | h) | h
  · omega
  · omega
  · exact ⟨h.1, fun y hy => by
      have := allN_at h.2 y hy
      unfold Nat.blt at this
      rw [Nat.ble_eq] at this
      omega⟩
def sqF (W r A c : Nat) : Nat := c / W / r * A + c % W / r
theorem sqF_xy {W r A x y : Nat} (hx : x < W) : sqF W r A (y * W + x) = y / r * A + x / r := by
  unfold sqF
  rw [(tk_xy hx).1, (tk_xy hx).2]
def tlF (b : Nat → Nat) (W r A i k : Nat) : Nat := sumN (fun c => if sqF W r A c * 10 + b c = k then 1 else 0) i
theorem sq_lt {W T r c : Nat} (hW : 1 ≤ W ∧ W ≤ 8) (hT : 1 ≤ T ∧ T ≤ 8) (hr : 1 ≤ r ∧ r ≤ 8) (hc : c < W * T) : sqF W r (cei W r) c < cei W r * cei T r := by
  have hy : c / W < T := by
    rw [Nat.div_lt_iff_lt_mul (by omega), Nat.mul_comm]
    exact hc
  have hx : c % W < W := Nat.mod_lt _ (by omega)
  exact xy_lt ((cei_ok hW hr).2 _ hx) ((cei_ok hT hr).2 _ hy)
def alB (b : Nat → Nat) (W T r l q : Nat) : Bool := allN 10 (fun p => decide (tlF b W r (cei W r) (W * T) (q * 10 + p) = tlF b W r (cei W r) (W * T) (tk (cei W r) (cei T r) l q * 10 + p)))
def rulF (b : Nat → Nat) (W T r l : Nat) : Nat := sumN (fun q => if alB b W T r l q = true then 0 else 1) (cei W r * cei T r)
theorem tl_le (b : Nat → Nat) (W r A i k : Nat) : tlF b W r A i k ≤ i := sumN_le1 (fun c => by split <;> omega) i
theorem tl_up {b : Nat → Nat} {W r A i k : Nat} : tlF b W r A (i + 1) k = tlF b W r A i k + (if sqF W r A i * 10 + b i = k then 1 else 0) := rfl
theorem c_tally {d t W T O r : Nat} {b : Nat → Nat} {gi : GI} {g : AG} {Q : Option AV → AH → Prop} (hG : GOK g) (h : ThC gi t W T O b) (hr : 1 ≤ r ∧ r ≤ 8)
    (hq : ∀ gi', OnlyI gi gi' 53 0 → (∀ k, k < 640 → gi' 53 0 k = n32 (tlF b W r (cei W r) (W * T) k)) → Q none (gi', g)) :
    ax_call (d + 2) m_Ruler_tally [.inr (.inr (some (11, 0))), .inr (.inr (some (2, t))), .inl (n32 r), .inl (n32 (cei W r))] (gi, g) Q := by
  obtain ⟨hw, ht, hO, hW, hT, hb⟩ := h
  have h64 := wt64 hW.2 hT.2
  have cW := cei_ok hW hr
  have cT := cei_ok hT hr
  have c64 := wt64 cW.1.2 cT.1.2
  have nz : ¬ n32 r = n32 0 := by
    rw [n32_eq (by omega) (by omega)]
    omega
  have out := loop_up (n := T) (P := fun y => ∀ gi1 o5 o6, OnlyI gi gi1 53 0 → (∀ k, k < 640 → gi1 53 0 k = n32 (tlF b W r (cei W r) (y * W) k)) → Runs (d + 1) (m_Ruler_tally, 11, [some (.inr (.inr (some (11, 0)))), some (.inr (.inr (some (2, t)))), some (.inl (n32 r)), some (.inl (n32 (cei W r))), some (.inl (n32 y)), o5, o6], []) (gi1, g) Q) ?_ ?_
  · rw [e_Ruler_tally]
    simp only [b_Ruler_tally_0, b_Ruler_tally_8, G_0_0 hG, G_0_1 hG, G_0_2 hG, G_0_3 hG, G_0_7 hG, G_0_10 hG, G_0_12 hG, G_0_13 hG, G_0_14 hG, G_0_15 hG, G_0_16 hG, G_0_17 hG, G_1_0 hG, G_1_2 hG, G_1_5 hG, G_2_4 hG, G_2_5 hG, G_3_5 hG, G_3_6 hG, G_3_7 hG, G_3_8 hG, G_3_9 hG, G_5_0 hG, G_5_1 hG, G_6_0 hG, G_6_1 hG, G_6_2 hG, G_6_9 hG, G_6_10 hG, G_6_11 hG, G_6_12 hG, G_6_13 hG, G_7_0 hG, G_7_5 hG, G_8_8 hG, G_8_9 hG, G_9_8 hG, G_9_9 hG, G_10_7 hG, G_10_8 hG, G_10_9 hG, G_10_10 hG, G_10_11 hG, G_11_0 hG, G_12_2 hG, G_12_3 hG, G_12_4 hG, G_12_5 hG, G_12_7 hG, G_12_8 hG, G_12_9 hG, G_12_12 hG, G_12_13 hG, G_12_14 hG, G_12_22 hG, G_12_23 hG, G_12_29 hG, G_12_30 hG, G_12_31 hG, G_12_37 hG, G_12_38 hG, G_12_39 hG, G_12_40 hG, G_12_41 hG, G_12_43 hG, G_12_46 hG, G_12_47 hG, G_12_48 hG, G_25 hG, G_26 hG, G_47 hG, G_58 hG, c_fill53, ax_psh_none, ax_psh_some, true_and, and_true, and_false, false_and, not_true_eq_false, not_false_eq_true, true_imp_iff, false_imp_iff, imp_self, or_true, true_or, or_false, false_or, and_self, ite_true, ite_false, if_true, if_false]
    refine out 0 (by omega) _ _ _ ?_ ?_
    · intro s a j q
      rw [rowF_at, if_neg (fun z => q ⟨z.1, z.2.1⟩)]
    · intro k hk
      rw [rowF_at, if_pos ⟨rfl, rfl, hk⟩, Nat.zero_mul]
      rfl
  · intro y hy ihy gi1 o5 o6 ho hk
    have e1 : gi1 2 t 1 = n32 T := (ho 2 t 1 (by omega)).trans ht
    have inn := loop_up (n := W) (P := fun x => ∀ gi2 o6, OnlyI gi gi2 53 0 → (∀ k, k < 640 → gi2 53 0 k = n32 (tlF b W r (cei W r) (y * W + x) k)) → Runs (d + 1) (m_Ruler_tally, 23, [some (.inr (.inr (some (11, 0)))), some (.inr (.inr (some (2, t)))), some (.inl (n32 r)), some (.inl (n32 (cei W r))), some (.inl (n32 y)), some (.inl (n32 x)), o6], []) (gi2, g) Q) ?_ ?_
    · rw [b_Ruler_tally_11]
      simp (disch := omega) only [b_Ruler_tally_20, e1, hy, n32_add, n32_mul, n32_lt, n32_le, n32_eq, n32_clamp, n32_inT, n32_div, n32_rem, n32_m1, n32_m1', n32_m1lt, n32_ltm1, n32_10, n32_01, Nat.not_lt_zero, Nat.lt_irrefl, Nat.mul_zero, Nat.zero_mul, Nat.zero_add, Nat.add_zero, Nat.reduceEqDiff, Nat.one_ne_zero, Nat.zero_ne_one, ax_psh_none, ax_psh_some, true_and, and_true, and_false, false_and, not_true_eq_false, not_false_eq_true, true_imp_iff, false_imp_iff, imp_self, or_true, true_or, or_false, false_or, and_self, ite_true, ite_false, if_true, if_false]
      exact inn 0 (by omega) gi1 _ ho hk
    · intro x hx ihx gi2 o6 ho2 hk2
      have e0 : gi2 2 t 0 = n32 W := (ho2 2 t 0 (by omega)).trans hw
      have hlt := xy_lt hx hy
      have e29 : gi2 29 t (y * W + x) = n32 (b (y * W + x)) := (ho2 29 t _ (by omega)).trans (hb _ (by omega)).1
      have hbc := (hb (y * W + x) (by omega)).2
      have hsq := sq_lt hW hT hr hlt
      rw [sqF_xy hx] at hsq
      have hy8 := cT.2 y hy
      have hx8 := cW.2 x hx
      rw [b_Ruler_tally_23]
      simp (disch := omega) only [b_Ruler_tally_32, e0, hx, nz, n32_div, G_0_0 hG, G_0_1 hG, G_0_2 hG, G_0_3 hG, G_0_7 hG, G_0_10 hG, G_0_12 hG, G_0_13 hG, G_0_14 hG, G_0_15 hG, G_0_16 hG, G_0_17 hG, G_1_0 hG, G_1_2 hG, G_1_5 hG, G_2_4 hG, G_2_5 hG, G_3_5 hG, G_3_6 hG, G_3_7 hG, G_3_8 hG, G_3_9 hG, G_5_0 hG, G_5_1 hG, G_6_0 hG, G_6_1 hG, G_6_2 hG, G_6_9 hG, G_6_10 hG, G_6_11 hG, G_6_12 hG, G_6_13 hG, G_7_0 hG, G_7_5 hG, G_8_8 hG, G_8_9 hG, G_9_8 hG, G_9_9 hG, G_10_7 hG, G_10_8 hG, G_10_9 hG, G_10_10 hG, G_10_11 hG, G_11_0 hG, G_12_2 hG, G_12_3 hG, G_12_4 hG, G_12_5 hG, G_12_7 hG, G_12_8 hG, G_12_9 hG, G_12_12 hG, G_12_13 hG, G_12_14 hG, G_12_22 hG, G_12_23 hG, G_12_29 hG, G_12_30 hG, G_12_31 hG, G_12_37 hG, G_12_38 hG, G_12_39 hG, G_12_40 hG, G_12_41 hG, G_12_43 hG, G_12_46 hG, G_12_47 hG, G_12_48 hG, G_25 hG, G_26 hG, G_47 hG, G_58 hG, e29, n32_add, n32_mul, n32_lt, n32_le, n32_eq, n32_clamp, n32_inT, n32_div, n32_rem, n32_m1, n32_m1', n32_m1lt, n32_ltm1, n32_10, n32_01, Nat.not_lt_zero, Nat.lt_irrefl, Nat.mul_zero, Nat.zero_mul, Nat.zero_add, Nat.add_zero, Nat.reduceEqDiff, Nat.one_ne_zero, Nat.zero_ne_one, ax_psh_none, ax_psh_some, true_and, and_true, and_false, false_and, not_true_eq_false, not_false_eq_true, true_imp_iff, false_imp_iff, imp_self, or_true, true_or, or_false, false_or, and_self, ite_true, ite_false, if_true, if_false]
      rw [hk2 _ (by omega)]
      refine ihx _ _ ?_ ?_
      · intro s a j q
        rw [wI_at, if_neg (fun z => q ⟨z.1, z.2.1⟩)]
        exact ho2 s a j q
      · intro k hkk
        rw [← Nat.add_assoc, tl_up, sqF_xy hx, wI_at]
        by_cases z : k = (y / r * cei W r + x / r) * 10 + b (y * W + x)
        · rw [if_pos ⟨rfl, rfl, z⟩, if_pos z.symm, z, n32_add]
        · rw [if_neg (fun z' => z z'.2.2), if_neg (fun z' => z z'.symm), hk2 k hkk]
          rfl
    · intro gi2 o6 ho2 hk2
      have e0 : gi2 2 t 0 = n32 W := (ho2 2 t 0 (by omega)).trans hw
      rw [b_Ruler_tally_23]
      simp (disch := omega) only [b_Ruler_tally_81, e0, n32_add, n32_mul, n32_lt, n32_le, n32_eq, n32_clamp, n32_inT, n32_div, n32_rem, n32_m1, n32_m1', n32_m1lt, n32_ltm1, n32_10, n32_01, Nat.not_lt_zero, Nat.lt_irrefl, Nat.mul_zero, Nat.zero_mul, Nat.zero_add, Nat.add_zero, Nat.reduceEqDiff, Nat.one_ne_zero, Nat.zero_ne_one, ax_psh_none, ax_psh_some, true_and, and_true, and_false, false_and, not_true_eq_false, not_false_eq_true, true_imp_iff, false_imp_iff, imp_self, or_true, true_or, or_false, false_or, and_self, ite_true, ite_false, if_true, if_false]
      refine ihy gi2 _ _ ho2 ?_
      rw [Nat.succ_mul]
      exact hk2
  · intro gi1 o5 o6 ho hk
    have e1 : gi1 2 t 1 = n32 T := (ho 2 t 1 (by omega)).trans ht
    rw [b_Ruler_tally_11]
    simp (disch := omega) only [b_Ruler_tally_87, e1, n32_add, n32_mul, n32_lt, n32_le, n32_eq, n32_clamp, n32_inT, n32_div, n32_rem, n32_m1, n32_m1', n32_m1lt, n32_ltm1, n32_10, n32_01, Nat.not_lt_zero, Nat.lt_irrefl, Nat.mul_zero, Nat.zero_mul, Nat.zero_add, Nat.add_zero, Nat.reduceEqDiff, Nat.one_ne_zero, Nat.zero_ne_one, ax_psh_none, ax_psh_some, true_and, and_true, and_false, false_and, not_true_eq_false, not_false_eq_true, true_imp_iff, false_imp_iff, imp_self, or_true, true_or, or_false, false_or, and_self, ite_true, ite_false, if_true, if_false]
    refine hq gi1 ho ?_
    rw [Nat.mul_comm W T]
    exact hk
theorem c_alike (d : Nat) {gi : GI} {g : AG} {Q : Option AV → AH → Prop} (hG : GOK g) {q q' : Nat} {f : Nat → Nat} (hq : q < 64) (hq' : q' < 64) (hf : ∀ k, f k ≤ 100) (h : ∀ k, k < 640 → gi 53 0 k = n32 (f k)) : ax_call (d + 1) m_Ruler_alike [.inr (.inr (some (11, 0))), .inl (n32 q), .inl (n32 q')] (gi, g) Q = Q (some (.inl (b32 (allN 10 (fun p => decide (f (q * 10 + p) = f (q' * 10 + p))))))) (gi, g) := by
  have key := loop_up (n := 10) (P := fun i => (∀ p, p < i → f (q * 10 + p) = f (q' * 10 + p)) → Runs d (m_Ruler_alike, 2, [some (.inr (.inr (some (11, 0)))), some (.inl (n32 q)), some (.inl (n32 q')), some (.inl (n32 i))], []) (gi, g) Q = Q (some (.inl (b32 (allN 10 (fun p => decide (f (q * 10 + p) = f (q' * 10 + p))))))) (gi, g)) ?_ ?_
  · rw [e_Ruler_alike, b_Ruler_alike_0]
    exact key 0 (by omega) (fun p hp => absurd hp (Nat.not_lt_zero p))
  · intro i hi ih hpre
    have f1 := hf (q * 10 + i)
    have f2 := hf (q' * 10 + i)
    rw [b_Ruler_alike_2]
    by_cases z : f (q * 10 + i) = f (q' * 10 + i)
    · simp (disch := omega) only [b_Ruler_alike_8, b_Ruler_alike_35, hi, G_0_0 hG, G_0_1 hG, G_0_2 hG, G_0_3 hG, G_0_7 hG, G_0_10 hG, G_0_12 hG, G_0_13 hG, G_0_14 hG, G_0_15 hG, G_0_16 hG, G_0_17 hG, G_1_0 hG, G_1_2 hG, G_1_5 hG, G_2_4 hG, G_2_5 hG, G_3_5 hG, G_3_6 hG, G_3_7 hG, G_3_8 hG, G_3_9 hG, G_5_0 hG, G_5_1 hG, G_6_0 hG, G_6_1 hG, G_6_2 hG, G_6_9 hG, G_6_10 hG, G_6_11 hG, G_6_12 hG, G_6_13 hG, G_7_0 hG, G_7_5 hG, G_8_8 hG, G_8_9 hG, G_9_8 hG, G_9_9 hG, G_10_7 hG, G_10_8 hG, G_10_9 hG, G_10_10 hG, G_10_11 hG, G_11_0 hG, G_12_2 hG, G_12_3 hG, G_12_4 hG, G_12_5 hG, G_12_7 hG, G_12_8 hG, G_12_9 hG, G_12_12 hG, G_12_13 hG, G_12_14 hG, G_12_22 hG, G_12_23 hG, G_12_29 hG, G_12_30 hG, G_12_31 hG, G_12_37 hG, G_12_38 hG, G_12_39 hG, G_12_40 hG, G_12_41 hG, G_12_43 hG, G_12_46 hG, G_12_47 hG, G_12_48 hG, G_25 hG, G_26 hG, G_47 hG, G_58 hG, h _ (by omega : q * 10 + i < 640), h _ (by omega : q' * 10 + i < 640), z, n32_add, n32_mul, n32_lt, n32_le, n32_eq, n32_clamp, n32_inT, n32_div, n32_rem, n32_m1, n32_m1', n32_m1lt, n32_ltm1, n32_10, n32_01, Nat.not_lt_zero, Nat.lt_irrefl, Nat.mul_zero, Nat.zero_mul, Nat.zero_add, Nat.add_zero, Nat.reduceEqDiff, Nat.one_ne_zero, Nat.zero_ne_one, ax_psh_none, ax_psh_some, true_and, and_true, and_false, false_and, not_true_eq_false, not_false_eq_true, true_imp_iff, false_imp_iff, imp_self, or_true, true_or, or_false, false_or, and_self, ite_true, ite_false, if_true, if_false]
      exact ih (fun p hp => by
        by_cases e : p = i
        · subst e
          exact z
        · exact hpre p (by omega))
    · have ef : allN 10 (fun p => decide (f (q * 10 + p) = f (q' * 10 + p))) = false := allN_false hi (decide_eq_false z)
      simp (disch := omega) only [b_Ruler_alike_8, b_Ruler_alike_33, hi, G_0_0 hG, G_0_1 hG, G_0_2 hG, G_0_3 hG, G_0_7 hG, G_0_10 hG, G_0_12 hG, G_0_13 hG, G_0_14 hG, G_0_15 hG, G_0_16 hG, G_0_17 hG, G_1_0 hG, G_1_2 hG, G_1_5 hG, G_2_4 hG, G_2_5 hG, G_3_5 hG, G_3_6 hG, G_3_7 hG, G_3_8 hG, G_3_9 hG, G_5_0 hG, G_5_1 hG, G_6_0 hG, G_6_1 hG, G_6_2 hG, G_6_9 hG, G_6_10 hG, G_6_11 hG, G_6_12 hG, G_6_13 hG, G_7_0 hG, G_7_5 hG, G_8_8 hG, G_8_9 hG, G_9_8 hG, G_9_9 hG, G_10_7 hG, G_10_8 hG, G_10_9 hG, G_10_10 hG, G_10_11 hG, G_11_0 hG, G_12_2 hG, G_12_3 hG, G_12_4 hG, G_12_5 hG, G_12_7 hG, G_12_8 hG, G_12_9 hG, G_12_12 hG, G_12_13 hG, G_12_14 hG, G_12_22 hG, G_12_23 hG, G_12_29 hG, G_12_30 hG, G_12_31 hG, G_12_37 hG, G_12_38 hG, G_12_39 hG, G_12_40 hG, G_12_41 hG, G_12_43 hG, G_12_46 hG, G_12_47 hG, G_12_48 hG, G_25 hG, G_26 hG, G_47 hG, G_58 hG, h _ (by omega : q * 10 + i < 640), h _ (by omega : q' * 10 + i < 640), z, ef, b32_0, n32_add, n32_mul, n32_lt, n32_le, n32_eq, n32_clamp, n32_inT, n32_div, n32_rem, n32_m1, n32_m1', n32_m1lt, n32_ltm1, n32_10, n32_01, Nat.not_lt_zero, Nat.lt_irrefl, Nat.mul_zero, Nat.zero_mul, Nat.zero_add, Nat.add_zero, Nat.reduceEqDiff, Nat.one_ne_zero, Nat.zero_ne_one, ax_psh_none, ax_psh_some, true_and, and_true, and_false, false_and, not_true_eq_false, not_false_eq_true, true_imp_iff, false_imp_iff, imp_self, or_true, true_or, or_false, false_or, and_self, ite_true, ite_false, if_true, if_false]
  · intro hpre
    have et : allN 10 (fun p => decide (f (q * 10 + p) = f (q' * 10 + p))) = true := allN_true (fun i hi => decide_eq_true (hpre i hi))
    rw [b_Ruler_alike_2]
    simp (disch := omega) only [b_Ruler_alike_41, et, b32_1, n32_add, n32_mul, n32_lt, n32_le, n32_eq, n32_clamp, n32_inT, n32_div, n32_rem, n32_m1, n32_m1', n32_m1lt, n32_ltm1, n32_10, n32_01, Nat.not_lt_zero, Nat.lt_irrefl, Nat.mul_zero, Nat.zero_mul, Nat.zero_add, Nat.add_zero, Nat.reduceEqDiff, Nat.one_ne_zero, Nat.zero_ne_one, ax_psh_none, ax_psh_some, true_and, and_true, and_false, false_and, not_true_eq_false, not_false_eq_true, true_imp_iff, false_imp_iff, imp_self, or_true, true_or, or_false, false_or, and_self, ite_true, ite_false, if_true, if_false]
theorem isF_cei {W T r l : Nat} (hl : l < likes W T) : isF (cei W r) (cei T r) l = true := by
  unfold likes at hl
  unfold isF
  split at hl
  · rename_i e
    subst e
    simp
    omega
  · simp
    omega
theorem c_measure {d t W T O r l : Nat} {b : Nat → Nat} {gi : GI} {g : AG} {Q : Option AV → AH → Prop} (hG : GOK g) (h : ThC gi t W T O b) (hr : 1 ≤ r ∧ r ≤ 8) (hl : l < likes W T)
    (hq : ∀ gi', OnlyI gi gi' 53 0 → Q (some (.inl (n32 (rulF b W T r l)))) (gi', g)) :
    ax_call (d + 3) m_Ruler_measure [.inr (.inr (some (11, 0))), .inr (.inr (some (2, t))), .inl (n32 l), .inl (n32 r)] (gi, g) Q := by
  have h0 := h
  obtain ⟨hw, ht, hO, hW, hT, hb⟩ := h
  have lk := likes_36 W T
  have h64 := wt64 hW.2 hT.2
  have cW := cei_ok hW hr
  have cT := cei_ok hT hr
  have c64 := wt64 cW.1.2 cT.1.2
  have nz : ¬ n32 r = n32 0 := by
    rw [n32_eq (by omega) (by omega)]
    omega
  have mx : (if n32 1 < n32 r then n32 r else n32 1) = n32 r := by
    by_cases z : 1 < r
    · rw [if_pos (by rw [n32_lt (by omega) (by omega)]; exact z)]
    · rw [if_neg (by rw [n32_lt (by omega) (by omega)]; exact z), show r = 1 by omega]
  have eW : (n32 W + n32 r - n32 1) / n32 r = n32 (cei W r) := by
    rw [n32_add, n32_sub (by omega), n32_div (by omega) (by omega)]
    rfl
  have eT : (n32 T + n32 r - n32 1) / n32 r = n32 (cei T r) := by
    rw [n32_add, n32_sub (by omega), n32_div (by omega) (by omega)]
    rfl
  rw [e_Ruler_measure, b_Ruler_measure_0, mx, hw, ht, eW, eT]
  refine ⟨nz, nz, c_tally (d := d) hG h0 hr ?_⟩
  intro gi1 ho hk
  have fle : ∀ k, tlF b W r (cei W r) (W * T) k ≤ 100 := fun k => Nat.le_trans (tl_le _ _ _ _ _ _) (by omega)
  have out := loop_up (n := cei T r) (P := fun y => ∀ o1 o3 o4 o9, Runs (d + 2) (m_Ruler_measure, 50, [some (.inr (.inr (some (11, 0)))), o1, some (.inl (n32 l)), o3, o4, some (.inl (n32 (cei W r))), some (.inl (n32 (cei T r))), some (.inl (n32 (sumN (fun q => if alB b W T r l q = true then 0 else 1) (y * cei W r)))), some (.inl (n32 y)), o9], []) (gi1, g) Q) ?_ ?_
  · simp only [b_Ruler_measure_44, ax_psh_none, ax_psh_some, true_and, and_true, and_false, false_and, not_true_eq_false, not_false_eq_true, true_imp_iff, false_imp_iff, imp_self, or_true, true_or, or_false, false_or, and_self, ite_true, ite_false, if_true, if_false]
    have := out 0 (by omega) (some (.inr (.inr (some (2, t))))) (some (.inl (n32 r))) (some (.inl (n32 r))) none
    rw [Nat.zero_mul] at this
    exact this
  · intro y hy ihy o1 o3 o4 o9
    have inn := loop_up (n := cei W r) (P := fun x => ∀ o1 o3 o4, Runs (d + 2) (m_Ruler_measure, 60, [some (.inr (.inr (some (11, 0)))), o1, some (.inl (n32 l)), o3, o4, some (.inl (n32 (cei W r))), some (.inl (n32 (cei T r))), some (.inl (n32 (sumN (fun q => if alB b W T r l q = true then 0 else 1) (y * cei W r + x)))), some (.inl (n32 y)), some (.inl (n32 x))], []) (gi1, g) Q) ?_ ?_
    · rw [b_Ruler_measure_50]
      simp (disch := omega) only [b_Ruler_measure_57, hy, n32_add, n32_mul, n32_lt, n32_le, n32_eq, n32_clamp, n32_inT, n32_div, n32_rem, n32_m1, n32_m1', n32_m1lt, n32_ltm1, n32_10, n32_01, Nat.not_lt_zero, Nat.lt_irrefl, Nat.mul_zero, Nat.zero_mul, Nat.zero_add, Nat.add_zero, Nat.reduceEqDiff, Nat.one_ne_zero, Nat.zero_ne_one, ax_psh_none, ax_psh_some, true_and, and_true, and_false, false_and, not_true_eq_false, not_false_eq_true, true_imp_iff, false_imp_iff, imp_self, or_true, true_or, or_false, false_or, and_self, ite_true, ite_false, if_true, if_false]
      exact inn 0 (by omega) _ _ _
    · intro x hx ihx o1 o3 o4
      have hlt := xy_lt hx hy
      have htk := tk_lt cW.1.2 cT.1.2 (by omega : l < 8) (isF_cei (r := r) hl) hlt
      rw [b_Ruler_measure_60]
      simp (disch := omega) only [b_Ruler_measure_67, b_Ruler_measure_88, b_Ruler_measure_91, hx, c_takenTo _ _ _ _ cW.1.2 cT.1.2 hx hy (by omega : l < 8), c_alike _ hG (by omega : y * cei W r + x < 64) (by omega : tk (cei W r) (cei T r) l (y * cei W r + x) < 64) fle hk, n32_add, n32_mul, n32_lt, n32_le, n32_eq, n32_clamp, n32_inT, n32_div, n32_rem, n32_m1, n32_m1', n32_m1lt, n32_ltm1, n32_10, n32_01, Nat.not_lt_zero, Nat.lt_irrefl, Nat.mul_zero, Nat.zero_mul, Nat.zero_add, Nat.add_zero, Nat.reduceEqDiff, Nat.one_ne_zero, Nat.zero_ne_one, ax_psh_none, ax_psh_some, true_and, and_true, and_false, false_and, not_true_eq_false, not_false_eq_true, true_imp_iff, false_imp_iff, imp_self, or_true, true_or, or_false, false_or, and_self, ite_true, ite_false, if_true, if_false]
      rw [show allN 10 (fun p => decide (tlF b W r (cei W r) (W * T) ((y * cei W r + x) * 10 + p) = tlF b W r (cei W r) (W * T) (tk (cei W r) (cei T r) l (y * cei W r + x) * 10 + p))) = alB b W T r l (y * cei W r + x) from rfl]
      rw [← Nat.add_assoc] at ihx
      cases hz : alB b W T r l (y * cei W r + x) with
      | true =>
        rw [sumN_succ, if_pos hz, Nat.add_zero] at ihx
        simp (disch := omega) only [b_Ruler_measure_97, b32_1, n32_add, n32_mul, n32_lt, n32_le, n32_eq, n32_clamp, n32_inT, n32_div, n32_rem, n32_m1, n32_m1', n32_m1lt, n32_ltm1, n32_10, n32_01, Nat.not_lt_zero, Nat.lt_irrefl, Nat.mul_zero, Nat.zero_mul, Nat.zero_add, Nat.add_zero, Nat.reduceEqDiff, Nat.one_ne_zero, Nat.zero_ne_one, ax_psh_none, ax_psh_some, true_and, and_true, and_false, false_and, not_true_eq_false, not_false_eq_true, true_imp_iff, false_imp_iff, imp_self, or_true, true_or, or_false, false_or, and_self, ite_true, ite_false, if_true, if_false]
        exact ihx _ _ _
      | false =>
        rw [sumN_succ, if_neg (by rw [hz]; decide)] at ihx
        simp (disch := omega) only [b_Ruler_measure_94, b_Ruler_measure_97, b32_0, n32_add, n32_mul, n32_lt, n32_le, n32_eq, n32_clamp, n32_inT, n32_div, n32_rem, n32_m1, n32_m1', n32_m1lt, n32_ltm1, n32_10, n32_01, Nat.not_lt_zero, Nat.lt_irrefl, Nat.mul_zero, Nat.zero_mul, Nat.zero_add, Nat.add_zero, Nat.reduceEqDiff, Nat.one_ne_zero, Nat.zero_ne_one, ax_psh_none, ax_psh_some, true_and, and_true, and_false, false_and, not_true_eq_false, not_false_eq_true, true_imp_iff, false_imp_iff, imp_self, or_true, true_or, or_false, false_or, and_self, ite_true, ite_false, if_true, if_false]
        exact ihx _ _ _
    · intro o1 o3 o4
      rw [b_Ruler_measure_60]
      simp (disch := omega) only [b_Ruler_measure_103, n32_add, n32_mul, n32_lt, n32_le, n32_eq, n32_clamp, n32_inT, n32_div, n32_rem, n32_m1, n32_m1', n32_m1lt, n32_ltm1, n32_10, n32_01, Nat.not_lt_zero, Nat.lt_irrefl, Nat.mul_zero, Nat.zero_mul, Nat.zero_add, Nat.add_zero, Nat.reduceEqDiff, Nat.one_ne_zero, Nat.zero_ne_one, ax_psh_none, ax_psh_some, true_and, and_true, and_false, false_and, not_true_eq_false, not_false_eq_true, true_imp_iff, false_imp_iff, imp_self, or_true, true_or, or_false, false_or, and_self, ite_true, ite_false, if_true, if_false]
      rw [← Nat.succ_mul]
      exact ihy _ _ _ _
  · intro o1 o3 o4 o9
    rw [b_Ruler_measure_50]
    simp (disch := omega) only [b_Ruler_measure_109, n32_add, n32_mul, n32_lt, n32_le, n32_eq, n32_clamp, n32_inT, n32_div, n32_rem, n32_m1, n32_m1', n32_m1lt, n32_ltm1, n32_10, n32_01, Nat.not_lt_zero, Nat.lt_irrefl, Nat.mul_zero, Nat.zero_mul, Nat.zero_add, Nat.add_zero, Nat.reduceEqDiff, Nat.one_ne_zero, Nat.zero_ne_one, ax_psh_none, ax_psh_some, true_and, and_true, and_false, false_and, not_true_eq_false, not_false_eq_true, true_imp_iff, false_imp_iff, imp_self, or_true, true_or, or_false, false_or, and_self, ite_true, ite_false, if_true, if_false]
    rw [Nat.mul_comm]
    exact hq gi1 ho
def rulMod (s j : Nat) : Bool := s == 84 || (s == 12 && (j == 25 || j == 26))
theorem c_M_rul {d t W T r l : Nat} {b : Nat → Nat} {gi : GI} {g : AG} {Q : Option AV → AH → Prop} (hG : GOK g) (h : Laid gi t W T b) (hW1 : 1 ≤ W) (hT1 : 1 ≤ T) (hr : 1 ≤ r ∧ r ≤ 8) (hl : l < likes W T) (o1 o4 o5 o6 o7 o8 o9 : Option AV)
    (hq : ∀ gi', Fr rulMod gi gi' → Q (some (.inl (n32 (rulF b W T r l)))) (gi', g)) :
    Runs (d + 2) (m_M_ruler, 35, [some (.inr (.inr (some (12, 0)))), o1, some (.inl (n32 l)), some (.inl (n32 r)), o4, o5, o6, o7, o8, o9], []) (gi, g) Q := by
  obtain ⟨-, w25, w26, hW8, hT8, -, hb⟩ := h
  have hW : 1 ≤ W ∧ W ≤ 8 := ⟨hW1, hW8⟩
  have hT : 1 ≤ T ∧ T ≤ 8 := ⟨hT1, hT8⟩
  have lk := likes_36 W T
  have h64 := wt64 hW.2 hT.2
  have cW := cei_ok hW hr
  have cT := cei_ok hT hr
  have c64 := wt64 cW.1.2 cT.1.2
  have nz : ¬ n32 r = n32 0 := by
    rw [n32_eq (by omega) (by omega)]
    omega
  have nzW : ¬ n32 W = n32 0 := by
    rw [n32_eq (by omega) (by omega)]
    omega
  have eW : (n32 W + n32 r - n32 1) / n32 r = n32 (cei W r) := by
    rw [n32_add, n32_sub (by omega), n32_div (by omega) (by omega)]
    rfl
  have eT : (n32 T + n32 r - n32 1) / n32 r = n32 (cei T r) := by
    rw [n32_add, n32_sub (by omega), n32_div (by omega) (by omega)]
    rfl
  have fle : ∀ k, tlF b W r (cei W r) (W * T) k ≤ 100 := fun k => Nat.le_trans (tl_le _ _ _ _ _ _) (by omega)
  rw [b_M_ruler_35, w25, w26, eW, eT]
  refine ⟨nz, nz, ?_⟩
  -- the look
  have s3 : ∀ gi2 : GI, Fr rulMod gi gi2 → gi2 12 0 25 = n32 (cei W r) → gi2 12 0 26 = n32 (cei T r) → (∀ k, k < cei W r * cei T r * 10 → gi2 84 0 k = n32 (tlF b W r (cei W r) (W * T) k)) → ∀ o1 o3 o8 o9, Runs (d + 2) (m_M_ruler, 172, [some (.inr (.inr (some (12, 0)))), o1, some (.inl (n32 l)), o3, some (.inl (n32 (cei W r))), some (.inl (n32 (cei T r))), some (.inl (n32 (sumN (fun q => if alB b W T r l q = true then 0 else 1) 0))), some (.inl (n32 0)), o8, o9], []) (gi2, g) Q := by
    intro gi2 fr2 v25 v26 hk
    refine loop_up (n := cei W r * cei T r) (P := fun q => ∀ o1 o3 o8 o9, Runs (d + 2) (m_M_ruler, 172, [some (.inr (.inr (some (12, 0)))), o1, some (.inl (n32 l)), o3, some (.inl (n32 (cei W r))), some (.inl (n32 (cei T r))), some (.inl (n32 (sumN (fun q => if alB b W T r l q = true then 0 else 1) q))), some (.inl (n32 q)), o8, o9], []) (gi2, g) Q) ?_ ?_ 0 (Nat.zero_le _)
    · intro q hq2 ih o1 o3 o8 o9
      have htk := tk_lt cW.1.2 cT.1.2 (by omega : l < 8) (isF_cei (r := r) hl) hq2
      rw [b_M_ruler_172]
      simp (disch := omega) only [b_M_ruler_182, hq2, n32_add, n32_mul, n32_lt, n32_le, n32_eq, n32_clamp, n32_inT, n32_div, n32_rem, n32_m1, n32_m1', n32_m1lt, n32_ltm1, n32_10, n32_01, Nat.not_lt_zero, Nat.lt_irrefl, Nat.mul_zero, Nat.zero_mul, Nat.zero_add, Nat.add_zero, Nat.reduceEqDiff, Nat.one_ne_zero, Nat.zero_ne_one, ax_psh_none, ax_psh_some, true_and, and_true, and_false, false_and, not_true_eq_false, not_false_eq_true, true_imp_iff, false_imp_iff, imp_self, or_true, true_or, or_false, false_or, and_self, ite_true, ite_false, if_true, if_false]
      have inn := loop_up (n := 10) (P := fun p => ∀ o1 o3, Runs (d + 2) (m_M_ruler, 188, [some (.inr (.inr (some (12, 0)))), o1, some (.inl (n32 l)), o3, some (.inl (n32 (cei W r))), some (.inl (n32 (cei T r))), some (.inl (n32 (sumN (fun q => if alB b W T r l q = true then 0 else 1) q))), some (.inl (n32 q)), some (.inl (b32 (allN p (fun p => decide (tlF b W r (cei W r) (W * T) (q * 10 + p) = tlF b W r (cei W r) (W * T) (tk (cei W r) (cei T r) l q * 10 + p)))))), some (.inl (n32 p))], []) (gi2, g) Q) ?_ ?_
      · exact inn 0 (by omega) _ _
      · intro p hp ihp o1 o3
        have f1 := fle (q * 10 + p)
        have f2 := fle (tk (cei W r) (cei T r) l q * 10 + p)
        rw [b_M_ruler_188]
        cases hz : allN p (fun p => decide (tlF b W r (cei W r) (W * T) (q * 10 + p) = tlF b W r (cei W r) (W * T) (tk (cei W r) (cei T r) l q * 10 + p))) with
        | false =>
          have e : allN (p + 1) (fun p => decide (tlF b W r (cei W r) (W * T) (q * 10 + p) = tlF b W r (cei W r) (W * T) (tk (cei W r) (cei T r) l q * 10 + p))) = false := by
            unfold allN
            rw [hz, Bool.and_false]
          rw [e] at ihp
          simp (disch := omega) only [b_M_ruler_195, b_M_ruler_238, b_M_ruler_239, hp, b32_0, n32_add, n32_mul, n32_lt, n32_le, n32_eq, n32_clamp, n32_inT, n32_div, n32_rem, n32_m1, n32_m1', n32_m1lt, n32_ltm1, n32_10, n32_01, Nat.not_lt_zero, Nat.lt_irrefl, Nat.mul_zero, Nat.zero_mul, Nat.zero_add, Nat.add_zero, Nat.reduceEqDiff, Nat.one_ne_zero, Nat.zero_ne_one, ax_psh_none, ax_psh_some, true_and, and_true, and_false, false_and, not_true_eq_false, not_false_eq_true, true_imp_iff, false_imp_iff, imp_self, or_true, true_or, or_false, false_or, and_self, ite_true, ite_false, if_true, if_false]
          exact ihp _ _
        | true =>
          by_cases z : tlF b W r (cei W r) (W * T) (q * 10 + p) = tlF b W r (cei W r) (W * T) (tk (cei W r) (cei T r) l q * 10 + p)
          · have e : allN (p + 1) (fun p => decide (tlF b W r (cei W r) (W * T) (q * 10 + p) = tlF b W r (cei W r) (W * T) (tk (cei W r) (cei T r) l q * 10 + p))) = true := allN_up1 hz (decide_eq_true z)
            rw [e] at ihp
            simp (disch := omega) only [b_M_ruler_195, b_M_ruler_200, b_M_ruler_224, b_M_ruler_234, b_M_ruler_239, hp, b32_1, G_0_0 hG, G_0_1 hG, G_0_2 hG, G_0_3 hG, G_0_7 hG, G_0_10 hG, G_0_12 hG, G_0_13 hG, G_0_14 hG, G_0_15 hG, G_0_16 hG, G_0_17 hG, G_1_0 hG, G_1_2 hG, G_1_5 hG, G_2_4 hG, G_2_5 hG, G_3_5 hG, G_3_6 hG, G_3_7 hG, G_3_8 hG, G_3_9 hG, G_5_0 hG, G_5_1 hG, G_6_0 hG, G_6_1 hG, G_6_2 hG, G_6_9 hG, G_6_10 hG, G_6_11 hG, G_6_12 hG, G_6_13 hG, G_7_0 hG, G_7_5 hG, G_8_8 hG, G_8_9 hG, G_9_8 hG, G_9_9 hG, G_10_7 hG, G_10_8 hG, G_10_9 hG, G_10_10 hG, G_10_11 hG, G_11_0 hG, G_12_2 hG, G_12_3 hG, G_12_4 hG, G_12_5 hG, G_12_7 hG, G_12_8 hG, G_12_9 hG, G_12_12 hG, G_12_13 hG, G_12_14 hG, G_12_22 hG, G_12_23 hG, G_12_29 hG, G_12_30 hG, G_12_31 hG, G_12_37 hG, G_12_38 hG, G_12_39 hG, G_12_40 hG, G_12_41 hG, G_12_43 hG, G_12_46 hG, G_12_47 hG, G_12_48 hG, G_25 hG, G_26 hG, G_47 hG, G_58 hG, c_M_takenTo _ hG v25 v26 cW.1 cT.1 (by omega : l < 8) (isF_cei (r := r) hl) hq2, hk _ (by omega : q * 10 + p < cei W r * cei T r * 10), hk _ (by omega : tk (cei W r) (cei T r) l q * 10 + p < cei W r * cei T r * 10), z, n32_add, n32_mul, n32_lt, n32_le, n32_eq, n32_clamp, n32_inT, n32_div, n32_rem, n32_m1, n32_m1', n32_m1lt, n32_ltm1, n32_10, n32_01, Nat.not_lt_zero, Nat.lt_irrefl, Nat.mul_zero, Nat.zero_mul, Nat.zero_add, Nat.add_zero, Nat.reduceEqDiff, Nat.one_ne_zero, Nat.zero_ne_one, ax_psh_none, ax_psh_some, true_and, and_true, and_false, false_and, not_true_eq_false, not_false_eq_true, true_imp_iff, false_imp_iff, imp_self, or_true, true_or, or_false, false_or, and_self, ite_true, ite_false, if_true, if_false]
            exact ihp _ _
          · have e : allN (p + 1) (fun p => decide (tlF b W r (cei W r) (W * T) (q * 10 + p) = tlF b W r (cei W r) (W * T) (tk (cei W r) (cei T r) l q * 10 + p))) = false := allN_false (Nat.lt_succ_self p) (decide_eq_false z)
            rw [e] at ihp
            simp (disch := omega) only [b_M_ruler_195, b_M_ruler_200, b_M_ruler_224, b_M_ruler_238, b_M_ruler_239, hp, b32_1, G_0_0 hG, G_0_1 hG, G_0_2 hG, G_0_3 hG, G_0_7 hG, G_0_10 hG, G_0_12 hG, G_0_13 hG, G_0_14 hG, G_0_15 hG, G_0_16 hG, G_0_17 hG, G_1_0 hG, G_1_2 hG, G_1_5 hG, G_2_4 hG, G_2_5 hG, G_3_5 hG, G_3_6 hG, G_3_7 hG, G_3_8 hG, G_3_9 hG, G_5_0 hG, G_5_1 hG, G_6_0 hG, G_6_1 hG, G_6_2 hG, G_6_9 hG, G_6_10 hG, G_6_11 hG, G_6_12 hG, G_6_13 hG, G_7_0 hG, G_7_5 hG, G_8_8 hG, G_8_9 hG, G_9_8 hG, G_9_9 hG, G_10_7 hG, G_10_8 hG, G_10_9 hG, G_10_10 hG, G_10_11 hG, G_11_0 hG, G_12_2 hG, G_12_3 hG, G_12_4 hG, G_12_5 hG, G_12_7 hG, G_12_8 hG, G_12_9 hG, G_12_12 hG, G_12_13 hG, G_12_14 hG, G_12_22 hG, G_12_23 hG, G_12_29 hG, G_12_30 hG, G_12_31 hG, G_12_37 hG, G_12_38 hG, G_12_39 hG, G_12_40 hG, G_12_41 hG, G_12_43 hG, G_12_46 hG, G_12_47 hG, G_12_48 hG, G_25 hG, G_26 hG, G_47 hG, G_58 hG, c_M_takenTo _ hG v25 v26 cW.1 cT.1 (by omega : l < 8) (isF_cei (r := r) hl) hq2, hk _ (by omega : q * 10 + p < cei W r * cei T r * 10), hk _ (by omega : tk (cei W r) (cei T r) l q * 10 + p < cei W r * cei T r * 10), z, n32_add, n32_mul, n32_lt, n32_le, n32_eq, n32_clamp, n32_inT, n32_div, n32_rem, n32_m1, n32_m1', n32_m1lt, n32_ltm1, n32_10, n32_01, Nat.not_lt_zero, Nat.lt_irrefl, Nat.mul_zero, Nat.zero_mul, Nat.zero_add, Nat.add_zero, Nat.reduceEqDiff, Nat.one_ne_zero, Nat.zero_ne_one, ax_psh_none, ax_psh_some, true_and, and_true, and_false, false_and, not_true_eq_false, not_false_eq_true, true_imp_iff, false_imp_iff, imp_self, or_true, true_or, or_false, false_or, and_self, ite_true, ite_false, if_true, if_false]
            exact ihp _ _
      · intro o1 o3
        rw [b_M_ruler_188]
        rw [show allN 10 (fun p => decide (tlF b W r (cei W r) (W * T) (q * 10 + p) = tlF b W r (cei W r) (W * T) (tk (cei W r) (cei T r) l q * 10 + p))) = alB b W T r l q from rfl]
        cases hz : alB b W T r l q with
        | true =>
          rw [sumN_succ, if_pos hz] at ih
          simp (disch := omega) only [b_M_ruler_247, b_M_ruler_254, b_M_ruler_259, b32_1, n32_add, n32_mul, n32_lt, n32_le, n32_eq, n32_clamp, n32_inT, n32_div, n32_rem, n32_m1, n32_m1', n32_m1lt, n32_ltm1, n32_10, n32_01, Nat.not_lt_zero, Nat.lt_irrefl, Nat.mul_zero, Nat.zero_mul, Nat.zero_add, Nat.add_zero, Nat.reduceEqDiff, Nat.one_ne_zero, Nat.zero_ne_one, ax_psh_none, ax_psh_some, true_and, and_true, and_false, false_and, not_true_eq_false, not_false_eq_true, true_imp_iff, false_imp_iff, imp_self, or_true, true_or, or_false, false_or, and_self, ite_true, ite_false, if_true, if_false]
          exact ih _ _ _ _
        | false =>
          rw [sumN_succ, if_neg (by rw [hz]; decide)] at ih
          simp (disch := omega) only [b_M_ruler_247, b_M_ruler_258, b_M_ruler_259, b32_0, n32_add, n32_mul, n32_lt, n32_le, n32_eq, n32_clamp, n32_inT, n32_div, n32_rem, n32_m1, n32_m1', n32_m1lt, n32_ltm1, n32_10, n32_01, Nat.not_lt_zero, Nat.lt_irrefl, Nat.mul_zero, Nat.zero_mul, Nat.zero_add, Nat.add_zero, Nat.reduceEqDiff, Nat.one_ne_zero, Nat.zero_ne_one, ax_psh_none, ax_psh_some, true_and, and_true, and_false, false_and, not_true_eq_false, not_false_eq_true, true_imp_iff, false_imp_iff, imp_self, or_true, true_or, or_false, false_or, and_self, ite_true, ite_false, if_true, if_false]
          exact ih _ _ _ _
    · intro o1 o3 o8 o9
      rw [b_M_ruler_172]
      simp (disch := omega) only [b_M_ruler_268, n32_add, n32_mul, n32_lt, n32_le, n32_eq, n32_clamp, n32_inT, n32_div, n32_rem, n32_m1, n32_m1', n32_m1lt, n32_ltm1, n32_10, n32_01, Nat.not_lt_zero, Nat.lt_irrefl, Nat.mul_zero, Nat.zero_mul, Nat.zero_add, Nat.add_zero, Nat.reduceEqDiff, Nat.one_ne_zero, Nat.zero_ne_one, ax_psh_none, ax_psh_some, true_and, and_true, and_false, false_and, not_true_eq_false, not_false_eq_true, true_imp_iff, false_imp_iff, imp_self, or_true, true_or, or_false, false_or, and_self, ite_true, ite_false, if_true, if_false]
      exact hq gi2 fr2
  -- the tally
  have s2 : ∀ gi2 : GI, Fr rulMod gi gi2 → gi2 12 0 25 = n32 W → gi2 12 0 26 = n32 T → (∀ k, k < cei W r * cei T r * 10 → gi2 84 0 k = n32 0) → ∀ o1 o7 o8 o9, Runs (d + 2) (m_M_ruler, 92, [some (.inr (.inr (some (12, 0)))), o1, some (.inl (n32 l)), some (.inl (n32 r)), some (.inl (n32 (cei W r))), some (.inl (n32 (cei T r))), some (.inl (n32 0)), o7, o8, o9], []) (gi2, g) Q := by
    intro gi2 fr2 v25 v26 hk
    refine loop_up (n := W * T) (P := fun c => ∀ gi3 : GI, Fr rulMod gi gi3 → gi3 12 0 25 = n32 W → gi3 12 0 26 = n32 T → (∀ k, k < cei W r * cei T r * 10 → gi3 84 0 k = n32 (tlF b W r (cei W r) c k)) → ∀ o1 o7 o8 o9, Runs (d + 2) (m_M_ruler, 92, [some (.inr (.inr (some (12, 0)))), o1, some (.inl (n32 l)), some (.inl (n32 r)), some (.inl (n32 (cei W r))), some (.inl (n32 (cei T r))), some (.inl (n32 c)), o7, o8, o9], []) (gi3, g) Q) ?_ ?_ 0 (Nat.zero_le _) gi2 fr2 v25 v26 hk
    · intro c hc ih gi3 fr3 u25 u26 hk3 o1 o7 o8 o9
      have hsq := sq_lt hW hT hr hc
      have hbc := (hb c hc).2
      have e74 : gi3 74 0 c = n32 (b c) := (fr3 74 0 c rfl).trans (hb c hc).1
      have d1 : c / W < 2147483648 := Nat.lt_of_le_of_lt (Nat.div_le_self c W) (by omega)
      have d2 : c % W < 2147483648 := Nat.lt_of_le_of_lt (Nat.mod_le c W) (by omega)
      rw [b_M_ruler_92]
      simp (disch := omega) only [u25, u26, hc, n32_mul, n32_lt, ax_psh_none, ax_psh_some, true_and, and_true, and_false, false_and, not_true_eq_false, not_false_eq_true, true_imp_iff, false_imp_iff, imp_self, or_true, true_or, or_false, false_or, and_self, ite_true, ite_false, if_true, if_false]
      rw [b_M_ruler_106, u25, n32_rem (by omega) (by omega), n32_div (by omega) (by omega), n32_div d1 (by omega), n32_div d2 (by omega), n32_clamp (by omega), e74, n32_mul, n32_add, n32_mul, n32_add]
      rw [show (c / W / r * cei W r + c % W / r) * 10 + b c = sqF W r (cei W r) c * 10 + b c from rfl, n32_clamp (by omega), hk3 _ (by omega), n32_add, n32_add]
      refine ⟨G_12_46 hG 0, nzW, nz, nzW, nz, G_12_23 hG 0, n32_in (by omega) (by omega), n32_in (by omega) (by omega), n32_in (by omega) (by omega), ?_⟩
      refine ih _ (Fr_wI fr3 rfl) ?_ ?_ ?_ _ _ _ _
      · rw [wI_at, if_neg (by omega)]
        exact u25
      · rw [wI_at, if_neg (by omega)]
        exact u26
      · intro k hkk
        rw [tl_up, wI_at]
        by_cases z : k = sqF W r (cei W r) c * 10 + b c
        · rw [if_pos ⟨rfl, rfl, z⟩, if_pos z.symm, z]
        · rw [if_neg (fun z' => z z'.2.2), if_neg (fun z' => z z'.symm), hk3 k hkk]
          rfl
    · intro gi3 fr3 u25 u26 hk3 o1 o7 o8 o9
      rw [b_M_ruler_92]
      simp (disch := omega) only [b_M_ruler_154, u25, u26, n32_add, n32_mul, n32_lt, n32_le, n32_eq, n32_clamp, n32_inT, n32_div, n32_rem, n32_m1, n32_m1', n32_m1lt, n32_ltm1, n32_10, n32_01, Nat.not_lt_zero, Nat.lt_irrefl, Nat.mul_zero, Nat.zero_mul, Nat.zero_add, Nat.add_zero, Nat.reduceEqDiff, Nat.one_ne_zero, Nat.zero_ne_one, ax_psh_none, ax_psh_some, true_and, and_true, and_false, false_and, not_true_eq_false, not_false_eq_true, true_imp_iff, false_imp_iff, imp_self, or_true, true_or, or_false, false_or, and_self, ite_true, ite_false, if_true, if_false]
      refine s3 _ (Fr_wI (Fr_wI fr3 rfl) rfl) ?_ ?_ ?_ _ _ _ _
      · simp [wI_at]
      · simp [wI_at]
      · intro k hkk
        rw [wI_at, if_neg (by omega), wI_at, if_neg (by omega)]
        exact hk3 k hkk
  refine loop_up (n := cei W r * cei T r * 10) (P := fun i => ∀ gi2 : GI, Fr rulMod gi gi2 → gi2 12 0 25 = n32 W → gi2 12 0 26 = n32 T → (∀ k, k < i → gi2 84 0 k = n32 0) → ∀ o1 o7 o8 o9, Runs (d + 2) (m_M_ruler, 62, [some (.inr (.inr (some (12, 0)))), o1, some (.inl (n32 l)), some (.inl (n32 r)), some (.inl (n32 (cei W r))), some (.inl (n32 (cei T r))), some (.inl (n32 i)), o7, o8, o9], []) (gi2, g) Q) ?_ ?_ 0 (Nat.zero_le _) gi (Fr_refl _ _) w25 w26 (fun k hk => absurd hk (Nat.not_lt_zero k)) _ _ _ _
  · intro i hi ih gi2 fr2 v25 v26 hk o1 o7 o8 o9
    rw [b_M_ruler_62]
    simp (disch := omega) only [b_M_ruler_75, hi, G_0_0 hG, G_0_1 hG, G_0_2 hG, G_0_3 hG, G_0_7 hG, G_0_10 hG, G_0_12 hG, G_0_13 hG, G_0_14 hG, G_0_15 hG, G_0_16 hG, G_0_17 hG, G_1_0 hG, G_1_2 hG, G_1_5 hG, G_2_4 hG, G_2_5 hG, G_3_5 hG, G_3_6 hG, G_3_7 hG, G_3_8 hG, G_3_9 hG, G_5_0 hG, G_5_1 hG, G_6_0 hG, G_6_1 hG, G_6_2 hG, G_6_9 hG, G_6_10 hG, G_6_11 hG, G_6_12 hG, G_6_13 hG, G_7_0 hG, G_7_5 hG, G_8_8 hG, G_8_9 hG, G_9_8 hG, G_9_9 hG, G_10_7 hG, G_10_8 hG, G_10_9 hG, G_10_10 hG, G_10_11 hG, G_11_0 hG, G_12_2 hG, G_12_3 hG, G_12_4 hG, G_12_5 hG, G_12_7 hG, G_12_8 hG, G_12_9 hG, G_12_12 hG, G_12_13 hG, G_12_14 hG, G_12_22 hG, G_12_23 hG, G_12_29 hG, G_12_30 hG, G_12_31 hG, G_12_37 hG, G_12_38 hG, G_12_39 hG, G_12_40 hG, G_12_41 hG, G_12_43 hG, G_12_46 hG, G_12_47 hG, G_12_48 hG, G_25 hG, G_26 hG, G_47 hG, G_58 hG, n32_add, n32_mul, n32_lt, n32_le, n32_eq, n32_clamp, n32_inT, n32_div, n32_rem, n32_m1, n32_m1', n32_m1lt, n32_ltm1, n32_10, n32_01, Nat.not_lt_zero, Nat.lt_irrefl, Nat.mul_zero, Nat.zero_mul, Nat.zero_add, Nat.add_zero, Nat.reduceEqDiff, Nat.one_ne_zero, Nat.zero_ne_one, ax_psh_none, ax_psh_some, true_and, and_true, and_false, false_and, not_true_eq_false, not_false_eq_true, true_imp_iff, false_imp_iff, imp_self, or_true, true_or, or_false, false_or, and_self, ite_true, ite_false, if_true, if_false]
    refine ih _ (Fr_wI fr2 rfl) ?_ ?_ ?_ _ _ _ _
    · rw [wI_at, if_neg (by omega)]
      exact v25
    · rw [wI_at, if_neg (by omega)]
      exact v26
    · intro k hkk
      rw [wI_at]
      by_cases z : k = i
      · rw [if_pos ⟨rfl, rfl, z⟩]
      · rw [if_neg (by omega)]
        exact hk k (by omega)
  · intro gi2 fr2 v25 v26 hk o1 o7 o8 o9
    rw [b_M_ruler_62]
    simp (disch := omega) only [b_M_ruler_89, n32_add, n32_mul, n32_lt, n32_le, n32_eq, n32_clamp, n32_inT, n32_div, n32_rem, n32_m1, n32_m1', n32_m1lt, n32_ltm1, n32_10, n32_01, Nat.not_lt_zero, Nat.lt_irrefl, Nat.mul_zero, Nat.zero_mul, Nat.zero_add, Nat.add_zero, Nat.reduceEqDiff, Nat.one_ne_zero, Nat.zero_ne_one, ax_psh_none, ax_psh_some, true_and, and_true, and_false, false_and, not_true_eq_false, not_false_eq_true, true_imp_iff, false_imp_iff, imp_self, or_true, true_or, or_false, false_or, and_self, ite_true, ite_false, if_true, if_false]
    exact s2 gi2 fr2 v25 v26 hk _ _ _ _
theorem qMod_rul {gi gi' : GI} (h : Fr rulMod gi gi') : Fr qMod gi gi' := fun s a j q => h s a j (by
  unfold rulMod
  cases hz : (s == 84 || (s == 12 && (j == 25 || j == 26))) with
  | false => rfl
  | true =>
    exfalso
    simp only [Bool.or_eq_true, Bool.and_eq_true, beq_iff_eq] at hz
    rcases hz with rfl | ⟨rfl, rfl | rfl⟩
    · exact absurd q (by simp [qMod])
    · exact absurd q (by decide)
    · exact absurd q (by decide))
theorem qMod_53 {gi gi' : GI} (ho : OnlyI gi gi' 53 0) : Fr qMod gi gi' := fun s a j q => ho s a j (fun z => by rw [z.1] at q; exact absurd q (by simp [qMod]))
theorem op_ruler (x y z : Int32) : Op m_S_ruler m_M_ruler [.inl x, .inl y, .inl z] := by
  intro D n gi g Ls Q hD hn hC hQ
  obtain ⟨d, rfl⟩ : ∃ d2, D = d2 + 20 := ⟨D - 20, by omega⟩
  obtain ⟨nt, m, s, hB, hG, b1, n6, hTh, hPI, hs2, hs, k796⟩ := ask_of hC
  rcases win_cases x nt (by omega) with ⟨t, ht, rfl⟩ | hw
  · have hv := thing_b hB ht
    have lk := likes_36 (Wk (gi 64 0) t) (Tk (gi 64 0) t)
    have fin2 : ∀ gi2, Fr layMod gi gi2 → ∀ v, Q (some (.inl v)) (some (.inl v)) (gi2, g) := fun gi2 fr2 v => q_end hC hQ (qMod_lay fr2) (GF_refl hG) (PI_lay hPI fr2) (St_ow hs (Fr_owl fr2)) (by omega) v
    rcases win_cases2 z 1 8 (by omega) (by omega) with ⟨r, hr1, hr8, rfl⟩ | hz
    · rcases win_cases y (likes (Wk (gi 64 0) t) (Tk (gi 64 0) t)) (by omega) with ⟨l, hl, rfl⟩ | hl
      · simp (disch := omega) only [e_S_ruler, b_S_ruler_0, b_S_ruler_8b, b_S_ruler_15, b_S_ruler_21, b_S_ruler_24, b_S_ruler_31, b_S_ruler_36, G_0_0 hG, G_0_1 hG, G_0_2 hG, G_0_3 hG, G_0_7 hG, G_0_10 hG, G_0_12 hG, G_0_13 hG, G_0_14 hG, G_0_15 hG, G_0_16 hG, G_0_17 hG, G_1_0 hG, G_1_2 hG, G_1_5 hG, G_2_4 hG, G_2_5 hG, G_3_5 hG, G_3_6 hG, G_3_7 hG, G_3_8 hG, G_3_9 hG, G_5_0 hG, G_5_1 hG, G_6_0 hG, G_6_1 hG, G_6_2 hG, G_6_9 hG, G_6_10 hG, G_6_11 hG, G_6_12 hG, G_6_13 hG, G_7_0 hG, G_7_5 hG, G_8_8 hG, G_8_9 hG, G_9_8 hG, G_9_9 hG, G_10_7 hG, G_10_8 hG, G_10_9 hG, G_10_10 hG, G_10_11 hG, G_11_0 hG, G_12_2 hG, G_12_3 hG, G_12_4 hG, G_12_5 hG, G_12_7 hG, G_12_8 hG, G_12_9 hG, G_12_12 hG, G_12_13 hG, G_12_14 hG, G_12_22 hG, G_12_23 hG, G_12_29 hG, G_12_30 hG, G_12_31 hG, G_12_37 hG, G_12_38 hG, G_12_39 hG, G_12_40 hG, G_12_41 hG, G_12_43 hG, G_12_46 hG, G_12_47 hG, G_12_48 hG, G_25 hG, G_26 hG, G_47 hG, G_58 hG, c_Books_thingAt _ _ _ _ hG b1 n6 ht, c_fits _ _ _ _ hv.1, win_sT hl (by omega), c_S_within, win_T hr1 hr8, n32_add, n32_mul, n32_lt, n32_le, n32_eq, n32_clamp, n32_inT, n32_div, n32_rem, n32_m1, n32_m1', n32_m1lt, n32_ltm1, n32_10, n32_01, Nat.not_lt_zero, Nat.lt_irrefl, Nat.mul_zero, Nat.zero_mul, Nat.zero_add, Nat.add_zero, Nat.reduceEqDiff, Nat.one_ne_zero, Nat.zero_ne_one, ax_psh_none, ax_psh_some, true_and, and_true, and_false, false_and, not_true_eq_false, not_false_eq_true, true_imp_iff, false_imp_iff, imp_self, or_true, true_or, or_false, false_or, and_self, ite_true, ite_false, if_true, if_false]
        refine c_measure (d := d + 16) hG hv.1 ⟨hr1, hr8⟩ hl ?_
        intro gi1 ho
        have hq1 := qMod_53 ho
        have hB1 := BK_q hB hq1 (GF_refl hG)
        have hv1 := thing_b hB1 ht
        have k1 : gi1 64 0 796 = n32 nt := e796_q (gi' := gi) (g' := g) hB1
        simp only [b_S_ruler_47, ax_psh_none, ax_psh_some, true_and, and_true, and_false, false_and, not_true_eq_false, not_false_eq_true, true_imp_iff, false_imp_iff, imp_self, or_true, true_or, or_false, false_or, and_self, ite_true, ite_false, if_true, if_false]
        rw [e_M_ruler, b_M_ruler_0]
        simp (disch := omega) only [b_M_ruler_5, b_M_ruler_8, b_M_ruler_15, b_M_ruler_20, c_M_isThing _ _ _ _ hG, k1, win_sT ht (by omega), c_M_lies, win_T hr1 hr8, n32_add, n32_mul, n32_lt, n32_le, n32_eq, n32_clamp, n32_inT, n32_div, n32_rem, n32_m1, n32_m1', n32_m1lt, n32_ltm1, n32_10, n32_01, Nat.not_lt_zero, Nat.lt_irrefl, Nat.mul_zero, Nat.zero_mul, Nat.zero_add, Nat.add_zero, Nat.reduceEqDiff, Nat.one_ne_zero, Nat.zero_ne_one, ax_psh_none, ax_psh_some, true_and, and_true, and_false, false_and, not_true_eq_false, not_false_eq_true, true_imp_iff, false_imp_iff, imp_self, or_true, true_or, or_false, false_or, and_self, ite_true, ite_false, if_true, if_false]
        refine c_M_lays (d := d + 17) hG (by omega) hv1.2.1 ?_
        intro gi2 fr2 hl2 h27 h28
        simp (disch := omega) only [b_M_ruler_25, b_M_ruler_30, c_M_isLike _ _ _ _ hl2.2.1 hl2.2.2.1 hl2.2.2.2.1 hl2.2.2.2.2.1, win_sT hl (by omega), n32_add, n32_mul, n32_lt, n32_le, n32_eq, n32_clamp, n32_inT, n32_div, n32_rem, n32_m1, n32_m1', n32_m1lt, n32_ltm1, n32_10, n32_01, Nat.not_lt_zero, Nat.lt_irrefl, Nat.mul_zero, Nat.zero_mul, Nat.zero_add, Nat.add_zero, Nat.reduceEqDiff, Nat.one_ne_zero, Nat.zero_ne_one, ax_psh_none, ax_psh_some, true_and, and_true, and_false, false_and, not_true_eq_false, not_false_eq_true, true_imp_iff, false_imp_iff, imp_self, or_true, true_or, or_false, false_or, and_self, ite_true, ite_false, if_true, if_false]
        refine c_M_rul (d := d + 17) hG hl2 hv.1.2.2.2.1.1 hv.1.2.2.2.2.1.1 ⟨hr1, hr8⟩ hl _ _ _ _ _ _ _ ?_
        intro gi3 fr3
        refine q_end hC hQ (Fr_trans hq1 (Fr_trans (qMod_lay fr2) (qMod_rul fr3))) (GF_refl hG) (fun t' ht' => PaperInv_of (hPI t' ht') (fun j => ?_) (fun a j => ?_)) (Stamps_of hs ?_ (fun j => ?_)) (by omega) _
        · exact (fr3 3 t' j rfl).trans ((fr2 3 t' j rfl).trans (ho 3 t' j (by omega)))
        · exact (fr3 59 a j rfl).trans ((fr2 59 a j rfl).trans (ho 59 a j (by omega)))
        · exact (fr3 7 0 4 rfl).trans ((fr2 7 0 4 rfl).trans (ho 7 0 4 (by omega)))
        · exact (fr3 39 0 j rfl).trans ((fr2 39 0 j rfl).trans (ho 39 0 j (by omega)))
      · simp (disch := omega) only [e_S_ruler, b_S_ruler_0, b_S_ruler_8b, b_S_ruler_15, b_S_ruler_21, b_S_ruler_34, G_0_0 hG, G_0_1 hG, G_0_2 hG, G_0_3 hG, G_0_7 hG, G_0_10 hG, G_0_12 hG, G_0_13 hG, G_0_14 hG, G_0_15 hG, G_0_16 hG, G_0_17 hG, G_1_0 hG, G_1_2 hG, G_1_5 hG, G_2_4 hG, G_2_5 hG, G_3_5 hG, G_3_6 hG, G_3_7 hG, G_3_8 hG, G_3_9 hG, G_5_0 hG, G_5_1 hG, G_6_0 hG, G_6_1 hG, G_6_2 hG, G_6_9 hG, G_6_10 hG, G_6_11 hG, G_6_12 hG, G_6_13 hG, G_7_0 hG, G_7_5 hG, G_8_8 hG, G_8_9 hG, G_9_8 hG, G_9_9 hG, G_10_7 hG, G_10_8 hG, G_10_9 hG, G_10_10 hG, G_10_11 hG, G_11_0 hG, G_12_2 hG, G_12_3 hG, G_12_4 hG, G_12_5 hG, G_12_7 hG, G_12_8 hG, G_12_9 hG, G_12_12 hG, G_12_13 hG, G_12_14 hG, G_12_22 hG, G_12_23 hG, G_12_29 hG, G_12_30 hG, G_12_31 hG, G_12_37 hG, G_12_38 hG, G_12_39 hG, G_12_40 hG, G_12_41 hG, G_12_43 hG, G_12_46 hG, G_12_47 hG, G_12_48 hG, G_25 hG, G_26 hG, G_47 hG, G_58 hG, c_Books_thingAt _ _ _ _ hG b1 n6 ht, c_fits _ _ _ _ hv.1, hl, n32_add, n32_mul, n32_lt, n32_le, n32_eq, n32_clamp, n32_inT, n32_div, n32_rem, n32_m1, n32_m1', n32_m1lt, n32_ltm1, n32_10, n32_01, Nat.not_lt_zero, Nat.lt_irrefl, Nat.mul_zero, Nat.zero_mul, Nat.zero_add, Nat.add_zero, Nat.reduceEqDiff, Nat.one_ne_zero, Nat.zero_ne_one, ax_psh_none, ax_psh_some, true_and, and_true, and_false, false_and, not_true_eq_false, not_false_eq_true, true_imp_iff, false_imp_iff, imp_self, or_true, true_or, or_false, false_or, and_self, ite_true, ite_false, if_true, if_false]
        rw [e_M_ruler, b_M_ruler_0]
        simp (disch := omega) only [b_M_ruler_5, b_M_ruler_8, b_M_ruler_15, b_M_ruler_20, c_M_isThing _ _ _ _ hG, k796, win_sT ht (by omega), c_M_lies, win_T hr1 hr8, n32_add, n32_mul, n32_lt, n32_le, n32_eq, n32_clamp, n32_inT, n32_div, n32_rem, n32_m1, n32_m1', n32_m1lt, n32_ltm1, n32_10, n32_01, Nat.not_lt_zero, Nat.lt_irrefl, Nat.mul_zero, Nat.zero_mul, Nat.zero_add, Nat.add_zero, Nat.reduceEqDiff, Nat.one_ne_zero, Nat.zero_ne_one, ax_psh_none, ax_psh_some, true_and, and_true, and_false, false_and, not_true_eq_false, not_false_eq_true, true_imp_iff, false_imp_iff, imp_self, or_true, true_or, or_false, false_or, and_self, ite_true, ite_false, if_true, if_false]
        refine c_M_lays (d := d + 17) hG (by omega) hv.2.1 ?_
        intro gi2 fr2 hl2 h27 h28
        simp (disch := omega) only [b_M_ruler_25, b_M_ruler_30, b_M_ruler_33, c_M_isLike _ _ _ _ hl2.2.1 hl2.2.2.1 hl2.2.2.2.1 hl2.2.2.2.2.1, hl, n32_add, n32_mul, n32_lt, n32_le, n32_eq, n32_clamp, n32_inT, n32_div, n32_rem, n32_m1, n32_m1', n32_m1lt, n32_ltm1, n32_10, n32_01, Nat.not_lt_zero, Nat.lt_irrefl, Nat.mul_zero, Nat.zero_mul, Nat.zero_add, Nat.add_zero, Nat.reduceEqDiff, Nat.one_ne_zero, Nat.zero_ne_one, ax_psh_none, ax_psh_some, true_and, and_true, and_false, false_and, not_true_eq_false, not_false_eq_true, true_imp_iff, false_imp_iff, imp_self, or_true, true_or, or_false, false_or, and_self, ite_true, ite_false, if_true, if_false]
        exact fin2 gi2 fr2 _
    · have mm : ∀ r, r = some (.inl (-1)) → ax_call (d + 20) m_M_ruler [.inr (.inr (some (12, 0))), .inl (n32 t), .inl y, .inl z] (gi, g) (fun r' h' => Q r r' h') := by
        intro r hr
        subst hr
        simp (disch := omega) only [e_M_ruler, b_M_ruler_0, b_M_ruler_5, b_M_ruler_8, b_M_ruler_15, b_M_ruler_18, c_M_isThing _ _ _ _ hG, k796, win_sT ht (by omega), c_M_lies, hz, n32_add, n32_mul, n32_lt, n32_le, n32_eq, n32_clamp, n32_inT, n32_div, n32_rem, n32_m1, n32_m1', n32_m1lt, n32_ltm1, n32_10, n32_01, Nat.not_lt_zero, Nat.lt_irrefl, Nat.mul_zero, Nat.zero_mul, Nat.zero_add, Nat.add_zero, Nat.reduceEqDiff, Nat.one_ne_zero, Nat.zero_ne_one, ax_psh_none, ax_psh_some, true_and, and_true, and_false, false_and, not_true_eq_false, not_false_eq_true, true_imp_iff, false_imp_iff, imp_self, or_true, true_or, or_false, false_or, and_self, ite_true, ite_false, if_true, if_false]
        exact op_end (D := d) (Core_same hC) hQ _
      rcases win_cases y (likes (Wk (gi 64 0) t) (Tk (gi 64 0) t)) (by omega) with ⟨l, hl, rfl⟩ | hl
      · simp (disch := omega) only [e_S_ruler, b_S_ruler_0, b_S_ruler_8b, b_S_ruler_15, b_S_ruler_21, b_S_ruler_24, b_S_ruler_31, b_S_ruler_34, G_0_0 hG, G_0_1 hG, G_0_2 hG, G_0_3 hG, G_0_7 hG, G_0_10 hG, G_0_12 hG, G_0_13 hG, G_0_14 hG, G_0_15 hG, G_0_16 hG, G_0_17 hG, G_1_0 hG, G_1_2 hG, G_1_5 hG, G_2_4 hG, G_2_5 hG, G_3_5 hG, G_3_6 hG, G_3_7 hG, G_3_8 hG, G_3_9 hG, G_5_0 hG, G_5_1 hG, G_6_0 hG, G_6_1 hG, G_6_2 hG, G_6_9 hG, G_6_10 hG, G_6_11 hG, G_6_12 hG, G_6_13 hG, G_7_0 hG, G_7_5 hG, G_8_8 hG, G_8_9 hG, G_9_8 hG, G_9_9 hG, G_10_7 hG, G_10_8 hG, G_10_9 hG, G_10_10 hG, G_10_11 hG, G_11_0 hG, G_12_2 hG, G_12_3 hG, G_12_4 hG, G_12_5 hG, G_12_7 hG, G_12_8 hG, G_12_9 hG, G_12_12 hG, G_12_13 hG, G_12_14 hG, G_12_22 hG, G_12_23 hG, G_12_29 hG, G_12_30 hG, G_12_31 hG, G_12_37 hG, G_12_38 hG, G_12_39 hG, G_12_40 hG, G_12_41 hG, G_12_43 hG, G_12_46 hG, G_12_47 hG, G_12_48 hG, G_25 hG, G_26 hG, G_47 hG, G_58 hG, c_Books_thingAt _ _ _ _ hG b1 n6 ht, c_fits _ _ _ _ hv.1, win_sT hl (by omega), c_S_within, hz, n32_add, n32_mul, n32_lt, n32_le, n32_eq, n32_clamp, n32_inT, n32_div, n32_rem, n32_m1, n32_m1', n32_m1lt, n32_ltm1, n32_10, n32_01, Nat.not_lt_zero, Nat.lt_irrefl, Nat.mul_zero, Nat.zero_mul, Nat.zero_add, Nat.add_zero, Nat.reduceEqDiff, Nat.one_ne_zero, Nat.zero_ne_one, ax_psh_none, ax_psh_some, true_and, and_true, and_false, false_and, not_true_eq_false, not_false_eq_true, true_imp_iff, false_imp_iff, imp_self, or_true, true_or, or_false, false_or, and_self, ite_true, ite_false, if_true, if_false]
        exact mm _ rfl
      · simp (disch := omega) only [e_S_ruler, b_S_ruler_0, b_S_ruler_8b, b_S_ruler_15, b_S_ruler_21, b_S_ruler_34, G_0_0 hG, G_0_1 hG, G_0_2 hG, G_0_3 hG, G_0_7 hG, G_0_10 hG, G_0_12 hG, G_0_13 hG, G_0_14 hG, G_0_15 hG, G_0_16 hG, G_0_17 hG, G_1_0 hG, G_1_2 hG, G_1_5 hG, G_2_4 hG, G_2_5 hG, G_3_5 hG, G_3_6 hG, G_3_7 hG, G_3_8 hG, G_3_9 hG, G_5_0 hG, G_5_1 hG, G_6_0 hG, G_6_1 hG, G_6_2 hG, G_6_9 hG, G_6_10 hG, G_6_11 hG, G_6_12 hG, G_6_13 hG, G_7_0 hG, G_7_5 hG, G_8_8 hG, G_8_9 hG, G_9_8 hG, G_9_9 hG, G_10_7 hG, G_10_8 hG, G_10_9 hG, G_10_10 hG, G_10_11 hG, G_11_0 hG, G_12_2 hG, G_12_3 hG, G_12_4 hG, G_12_5 hG, G_12_7 hG, G_12_8 hG, G_12_9 hG, G_12_12 hG, G_12_13 hG, G_12_14 hG, G_12_22 hG, G_12_23 hG, G_12_29 hG, G_12_30 hG, G_12_31 hG, G_12_37 hG, G_12_38 hG, G_12_39 hG, G_12_40 hG, G_12_41 hG, G_12_43 hG, G_12_46 hG, G_12_47 hG, G_12_48 hG, G_25 hG, G_26 hG, G_47 hG, G_58 hG, c_Books_thingAt _ _ _ _ hG b1 n6 ht, c_fits _ _ _ _ hv.1, hl, n32_add, n32_mul, n32_lt, n32_le, n32_eq, n32_clamp, n32_inT, n32_div, n32_rem, n32_m1, n32_m1', n32_m1lt, n32_ltm1, n32_10, n32_01, Nat.not_lt_zero, Nat.lt_irrefl, Nat.mul_zero, Nat.zero_mul, Nat.zero_add, Nat.add_zero, Nat.reduceEqDiff, Nat.one_ne_zero, Nat.zero_ne_one, ax_psh_none, ax_psh_some, true_and, and_true, and_false, false_and, not_true_eq_false, not_false_eq_true, true_imp_iff, false_imp_iff, imp_self, or_true, true_or, or_false, false_or, and_self, ite_true, ite_false, if_true, if_false]
        exact mm _ rfl
  · simp (disch := omega) only [e_S_ruler, b_S_ruler_0, b_S_ruler_8a, b_S_ruler_34, G_0_0 hG, G_0_1 hG, G_0_2 hG, G_0_3 hG, G_0_7 hG, G_0_10 hG, G_0_12 hG, G_0_13 hG, G_0_14 hG, G_0_15 hG, G_0_16 hG, G_0_17 hG, G_1_0 hG, G_1_2 hG, G_1_5 hG, G_2_4 hG, G_2_5 hG, G_3_5 hG, G_3_6 hG, G_3_7 hG, G_3_8 hG, G_3_9 hG, G_5_0 hG, G_5_1 hG, G_6_0 hG, G_6_1 hG, G_6_2 hG, G_6_9 hG, G_6_10 hG, G_6_11 hG, G_6_12 hG, G_6_13 hG, G_7_0 hG, G_7_5 hG, G_8_8 hG, G_8_9 hG, G_9_8 hG, G_9_9 hG, G_10_7 hG, G_10_8 hG, G_10_9 hG, G_10_10 hG, G_10_11 hG, G_11_0 hG, G_12_2 hG, G_12_3 hG, G_12_4 hG, G_12_5 hG, G_12_7 hG, G_12_8 hG, G_12_9 hG, G_12_12 hG, G_12_13 hG, G_12_14 hG, G_12_22 hG, G_12_23 hG, G_12_29 hG, G_12_30 hG, G_12_31 hG, G_12_37 hG, G_12_38 hG, G_12_39 hG, G_12_40 hG, G_12_41 hG, G_12_43 hG, G_12_46 hG, G_12_47 hG, G_12_48 hG, G_25 hG, G_26 hG, G_47 hG, G_58 hG, c_Books_thingAt_n _ _ _ _ hG b1 hw, e_M_ruler, b_M_ruler_0, b_M_ruler_5, b_M_ruler_18, c_M_isThing _ _ _ _ hG, k796, hw, n32_add, n32_mul, n32_lt, n32_le, n32_eq, n32_clamp, n32_inT, n32_div, n32_rem, n32_m1, n32_m1', n32_m1lt, n32_ltm1, n32_10, n32_01, Nat.not_lt_zero, Nat.lt_irrefl, Nat.mul_zero, Nat.zero_mul, Nat.zero_add, Nat.add_zero, Nat.reduceEqDiff, Nat.one_ne_zero, Nat.zero_ne_one, ax_psh_none, ax_psh_some, true_and, and_true, and_false, false_and, not_true_eq_false, not_false_eq_true, true_imp_iff, false_imp_iff, imp_self, or_true, true_or, or_false, false_or, and_self, ite_true, ite_false, if_true, if_false]
    exact op_end (D := d) (Core_same hC) hQ _
