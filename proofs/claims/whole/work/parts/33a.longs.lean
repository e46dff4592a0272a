/-! ints and longs that are integers -/
def iv (v : Int) : Int32 := Int32.ofInt v
def lv (v : Int) : Int64 := Int64.ofInt v
def Bd (v : Int) : Prop := -1000000000 ≤ v ∧ v ≤ 1000000000
def Bg (v : Int) : Prop := -2000000000000000000 ≤ v ∧ v ≤ 2000000000000000000
theorem Bd_g {v : Int} (h : Bd v) : Bg v := by
  unfold Bd at h
  unfold Bg
  omega
theorem iv_n (k : Nat) : iv (k : Int) = n32 k := Int32.ofInt_eq_ofNat
theorem iv_64 {v : Int} (h : Bd v) : (iv v).toInt64 = lv v := by
  unfold Bd at h
  refine Int32.toInt64_ofInt ?_ ?_
  · have : Int32.minValue.toInt = -2147483648 := by decide
    omega
  · have : Int32.maxValue.toInt = 2147483647 := by decide
    omega
theorem lo_32 (v : Int) : (lv v).toInt32 = iv v := Int64.toInt32_ofInt
theorem lo_n {k : Nat} (h : k < 2147483648) : (n32 k).toInt64 = lv k := by
  rw [← iv_n]
  refine Int32.toInt64_ofInt ?_ ?_
  · have : Int32.minValue.toInt = -2147483648 := by decide
    omega
  · have : Int32.maxValue.toInt = 2147483647 := by decide
    omega
theorem lo_add (a b : Int) : lv a + lv b = lv (a + b) := (Int64.ofInt_add a b).symm
theorem lo_sub (a b : Int) : lv a - lv b = lv (a - b) := (Int64.ofInt_sub a b).symm
theorem lo_mul (a b : Int) : lv a * lv b = lv (a * b) := (Int64.ofInt_mul a b).symm
theorem lo_div {a b : Int} (ha : Bd a) (hb : Bd b) : lv a / lv b = lv (a.tdiv b) := by
  unfold Bd at ha hb
  have e1 : Int64.minValue.toInt = -9223372036854775808 := by decide
  have e2 : Int64.maxValue.toInt = 9223372036854775807 := by decide
  exact (Int64.ofInt_tdiv (by omega) (by omega) (by omega) (by omega)).symm
theorem lo_toInt {v : Int} (h : Bg v) : (lv v).toInt = v := by
  unfold Bg at h
  exact Int64.toInt_ofInt_of_le (by omega) (by omega)
theorem lo_lt {a b : Int} (ha : Bg a) (hb : Bg b) : (lv a < lv b) = (a < b) := by
  rw [Int64.lt_iff_toInt_lt, lo_toInt ha, lo_toInt hb]
theorem lo_eq {a b : Int} (ha : Bg a) (hb : Bg b) : (lv a = lv b) = (a = b) := by
  rw [← Int64.toInt_inj, lo_toInt ha, lo_toInt hb]
theorem cmp_lt {a b : Int} (ha : Bg a) (hb : Bg b) : (lg_cmp (lv a) (lv b) < n32 0) = (a < b) := by
  unfold lg_cmp
  simp only [gt_iff_lt, lo_lt hb ha, lo_eq ha hb]
  by_cases h1 : b < a
  · rw [if_pos h1]
    have e : ¬ ((1 : Int32) < n32 0) := by decide
    simp only [e, eq_iff_iff, false_iff]
    omega
  · rw [if_neg h1]
    by_cases h2 : a = b
    · rw [if_pos h2]
      have e : ¬ ((0 : Int32) < n32 0) := by decide
      simp only [e, eq_iff_iff, false_iff]
      omega
    · rw [if_neg h2]
      have e : ((-1 : Int32) < n32 0) := by decide
      simp only [e, eq_iff_iff, true_iff]
      omega
theorem cmp_gt {a b : Int} (ha : Bg a) (hb : Bg b) : (n32 0 < lg_cmp (lv a) (lv b)) = (b < a) := by
  unfold lg_cmp
  simp only [gt_iff_lt, lo_lt hb ha, lo_eq ha hb]
  by_cases h1 : b < a
  · rw [if_pos h1]
    have e : (n32 0 < (1 : Int32)) := by decide
    simp only [e, h1]
  · rw [if_neg h1]
    by_cases h2 : a = b
    · rw [if_pos h2]
      have e : ¬ (n32 0 < (0 : Int32)) := by decide
      simp only [e, h1]
    · rw [if_neg h2]
      have e : ¬ (n32 0 < (-1 : Int32)) := by decide
      simp only [e, h1]
theorem cmp_eq {a b : Int} (ha : Bg a) (hb : Bg b) : (lg_cmp (lv a) (lv b) = n32 0) = (a = b) := by
  unfold lg_cmp
  simp only [gt_iff_lt, lo_lt hb ha, lo_eq ha hb]
  by_cases h1 : b < a
  · rw [if_pos h1]
    have e : ¬ ((1 : Int32) = n32 0) := by decide
    simp only [e, eq_iff_iff, false_iff]
    omega
  · rw [if_neg h1]
    by_cases h2 : a = b
    · rw [if_pos h2]
      have e : ((0 : Int32) = n32 0) := by decide
      simp only [e, h2]
    · rw [if_neg h2]
      have e : ¬ ((-1 : Int32) = n32 0) := by decide
      simp only [e, h2]
theorem lo_ne0 {a : Int} (ha : Bg a) (h : a ≠ 0) : ¬ lv a = 0 := by
  have e : (0 : Int64) = lv 0 := by decide
  rw [e, lo_eq ha (by unfold Bg; omega)]
  exact h
theorem l_m9 : ((-1000000000 : Int32)).toInt64 = lv (-1000000000) := by decide
theorem iv_toInt {v : Int} (h : Bd v) : (iv v).toInt = v := by
  unfold Bd at h
  exact Int32.toInt_ofInt_of_le (by omega) (by omega)
theorem iv_eq {a b : Int} (ha : Bd a) (hb : Bd b) : (iv a = iv b) = (a = b) := by
  apply propext
  refine ⟨fun h => ?_, fun h => by rw [h]⟩
  have := iv_toInt ha
  rw [h, iv_toInt hb] at this
  exact this.symm
theorem Bg_add {a b : Int} (ha : Bd a) (hb : Bd b) : Bg (a + b) := by
  unfold Bd at *
  unfold Bg
  omega
theorem Bg_sub {a b : Int} (ha : Bd a) (hb : Bd b) : Bg (a - b) := by
  unfold Bd at *
  unfold Bg
  omega
theorem Bg_mul {a b : Int} (ha : Bd a) (hb : Bd b) : Bg (a * b) := by
  unfold Bd at *
  unfold Bg
  have h1 : a.natAbs ≤ 1000000000 := by omega
  have h2 : b.natAbs ≤ 1000000000 := by omega
  have h3 : (a * b).natAbs = a.natAbs * b.natAbs := Int.natAbs_mul a b
  have h4 : a.natAbs * b.natAbs ≤ 1000000000 * 1000000000 := Nat.mul_le_mul h1 h2
  rw [← h3] at h4
  omega
theorem Bd_div {a b : Int} (ha : Bd a) : Bd (a.tdiv b) := by
  unfold Bd at *
  have h3 : (a.tdiv b).natAbs = a.natAbs / b.natAbs := Int.natAbs_tdiv a b
  have h4 : a.natAbs / b.natAbs ≤ a.natAbs := Nat.div_le_self _ _
  omega
theorem limI_y {v : Int} (h : Bd v) : limI v = some v := if_pos h
theorem limI_n {v : Int} (h : ¬ Bd v) : limI v = none := if_neg h
theorem b32_iv (b : Bool) : b32 b = iv (if b = true then 1 else 0) := by
  cases b
  · decide
  · decide
theorem Bd_01 (b : Bool) : Bd (if b = true then 1 else 0) := by
  unfold Bd
  split <;> omega
theorem Bd_n {k : Nat} (h : k ≤ 1000000000) : Bd (k : Int) := by
  unfold Bd
  omega
/-! the class's machine: its stack -/
theorem c_push_y (d : Nat) {gi : GI} {g : AG} {Q : Option AV → AH → Prop} (hG : GOK g) {k : Nat} {v : Int} (hk : gi 5 0 2 = n32 k) (hk64 : k < 64) (h : Bd v) : ax_call (d + 1) m_Mach_push [.inr (.inr (some (5, 0))), .inr (.inl (lv v))] (gi, g) Q = Q none (ax_wI (ax_wI gi 42 0 k (iv v)) 5 0 2 (n32 (k + 1)), g) := by
  have h1 := Bd_g h
  have e1 : ¬ v < -1000000000 := by unfold Bd at h; omega
  have e2 : ¬ ((1000000000 : Nat) : Int) < v := by unfold Bd at h; omega
  have b1 : Bg (-1000000000) := by unfold Bg; omega
  have b2 : Bg ((1000000000 : Nat) : Int) := by unfold Bg; omega
  simp (disch := omega) only [e_Mach_push, b_Mach_push_0, b_Mach_push_8, b_Mach_push_16, b_Mach_push_25, b_Mach_push_31, l_m9, lo_n (by omega : 1000000000 < 2147483648), cmp_lt h1 b1, cmp_gt h1 b2, e1, e2, hk, hk64, G_0_0 hG, G_0_1 hG, G_0_2 hG, G_0_3 hG, G_0_7 hG, G_0_10 hG, G_0_12 hG, G_0_13 hG, G_0_14 hG, G_0_15 hG, G_0_16 hG, G_0_17 hG, G_1_0 hG, G_1_2 hG, G_1_5 hG, G_2_4 hG, G_2_5 hG, G_3_5 hG, G_3_6 hG, G_3_7 hG, G_3_8 hG, G_3_9 hG, G_5_0 hG, G_5_1 hG, G_6_0 hG, G_6_1 hG, G_6_2 hG, G_6_9 hG, G_6_10 hG, G_6_11 hG, G_6_12 hG, G_6_13 hG, G_7_0 hG, G_7_5 hG, G_8_8 hG, G_8_9 hG, G_9_8 hG, G_9_9 hG, G_10_7 hG, G_10_8 hG, G_10_9 hG, G_10_10 hG, G_10_11 hG, G_11_0 hG, G_12_2 hG, G_12_3 hG, G_12_4 hG, G_12_5 hG, G_12_7 hG, G_12_8 hG, G_12_9 hG, G_12_12 hG, G_12_13 hG, G_12_14 hG, G_12_22 hG, G_12_23 hG, G_12_29 hG, G_12_30 hG, G_12_31 hG, G_12_37 hG, G_12_38 hG, G_12_39 hG, G_12_40 hG, G_12_41 hG, G_12_43 hG, G_12_46 hG, G_12_47 hG, G_12_48 hG, G_25 hG, G_26 hG, G_47 hG, G_58 hG, lo_32, wI_at, n32_add, n32_mul, n32_lt, n32_le, n32_eq, n32_clamp, n32_inT, n32_div, n32_rem, n32_m1, n32_m1', n32_m1lt, n32_ltm1, n32_10, n32_01, Nat.not_lt_zero, Nat.lt_irrefl, Nat.mul_zero, Nat.zero_mul, Nat.zero_add, Nat.add_zero, Nat.reduceEqDiff, Nat.one_ne_zero, Nat.zero_ne_one, ax_psh_none, ax_psh_some, true_and, and_true, and_false, false_and, not_true_eq_false, not_false_eq_true, true_imp_iff, false_imp_iff, imp_self, or_true, true_or, or_false, false_or, and_self, ite_true, ite_false, if_true, if_false, reduceIte, Nat.reduceEqDiff, Nat.reduceLT, Nat.reduceAdd, Nat.reduceMul, Nat.reduceSub, Nat.reduceDiv, Nat.reduceMod, Nat.reduceLeDiff]
theorem c_push_n (d : Nat) {gi : GI} {g : AG} {Q : Option AV → AH → Prop} (hG : GOK g) {v : Int} (hg : Bg v) (h : ¬ Bd v) : ax_call (d + 1) m_Mach_push [.inr (.inr (some (5, 0))), .inr (.inl (lv v))] (gi, g) Q = Q none (ax_wI gi 5 0 3 (n32 1), g) := by
  have b1 : Bg (-1000000000) := by unfold Bg; omega
  have b2 : Bg ((1000000000 : Nat) : Int) := by unfold Bg; omega
  by_cases e1 : v < -1000000000
  · simp (disch := omega) only [e_Mach_push, b_Mach_push_0, b_Mach_push_8, b_Mach_push_16, b_Mach_push_25, b_Mach_push_31, l_m9, cmp_lt hg b1, e1, n32_add, n32_mul, n32_lt, n32_le, n32_eq, n32_clamp, n32_inT, n32_div, n32_rem, n32_m1, n32_m1', n32_m1lt, n32_ltm1, n32_10, n32_01, Nat.not_lt_zero, Nat.lt_irrefl, Nat.mul_zero, Nat.zero_mul, Nat.zero_add, Nat.add_zero, Nat.reduceEqDiff, Nat.one_ne_zero, Nat.zero_ne_one, ax_psh_none, ax_psh_some, true_and, and_true, and_false, false_and, not_true_eq_false, not_false_eq_true, true_imp_iff, false_imp_iff, imp_self, or_true, true_or, or_false, false_or, and_self, ite_true, ite_false, if_true, if_false, reduceIte, Nat.reduceEqDiff, Nat.reduceLT, Nat.reduceAdd, Nat.reduceMul, Nat.reduceSub, Nat.reduceDiv, Nat.reduceMod, Nat.reduceLeDiff]
  · have e2 : ((1000000000 : Nat) : Int) < v := by unfold Bd at h; omega
    simp (disch := omega) only [e_Mach_push, b_Mach_push_0, b_Mach_push_8, b_Mach_push_16, b_Mach_push_25, b_Mach_push_31, l_m9, lo_n (by omega : 1000000000 < 2147483648), cmp_lt hg b1, cmp_gt hg b2, e1, e2, n32_add, n32_mul, n32_lt, n32_le, n32_eq, n32_clamp, n32_inT, n32_div, n32_rem, n32_m1, n32_m1', n32_m1lt, n32_ltm1, n32_10, n32_01, Nat.not_lt_zero, Nat.lt_irrefl, Nat.mul_zero, Nat.zero_mul, Nat.zero_add, Nat.add_zero, Nat.reduceEqDiff, Nat.one_ne_zero, Nat.zero_ne_one, ax_psh_none, ax_psh_some, true_and, and_true, and_false, false_and, not_true_eq_false, not_false_eq_true, true_imp_iff, false_imp_iff, imp_self, or_true, true_or, or_false, false_or, and_self, ite_true, ite_false, if_true, if_false, reduceIte, Nat.reduceEqDiff, Nat.reduceLT, Nat.reduceAdd, Nat.reduceMul, Nat.reduceSub, Nat.reduceDiv, Nat.reduceMod, Nat.reduceLeDiff]
theorem c_pop (d : Nat) {gi : GI} {g : AG} {Q : Option AV → AH → Prop} (hG : GOK g) {k : Nat} (hk : gi 5 0 2 = n32 (k + 1)) (hk64 : k < 64) : ax_call (d + 1) m_Mach_pop [.inr (.inr (some (5, 0)))] (gi, g) Q = Q (some (.inl (gi 42 0 k))) (ax_wI gi 5 0 2 (n32 k), g) := by
  have e1 : 0 < k + 1 := by omega
  have e2 : n32 (k + 1) - n32 1 = n32 k := by rw [n32_sub (by omega)]; rfl
  simp (disch := omega) only [e_Mach_pop, b_Mach_pop_0, b_Mach_pop_7, b_Mach_pop_14, hk, e1, e2, G_0_0 hG, G_0_1 hG, G_0_2 hG, G_0_3 hG, G_0_7 hG, G_0_10 hG, G_0_12 hG, G_0_13 hG, G_0_14 hG, G_0_15 hG, G_0_16 hG, G_0_17 hG, G_1_0 hG, G_1_2 hG, G_1_5 hG, G_2_4 hG, G_2_5 hG, G_3_5 hG, G_3_6 hG, G_3_7 hG, G_3_8 hG, G_3_9 hG, G_5_0 hG, G_5_1 hG, G_6_0 hG, G_6_1 hG, G_6_2 hG, G_6_9 hG, G_6_10 hG, G_6_11 hG, G_6_12 hG, G_6_13 hG, G_7_0 hG, G_7_5 hG, G_8_8 hG, G_8_9 hG, G_9_8 hG, G_9_9 hG, G_10_7 hG, G_10_8 hG, G_10_9 hG, G_10_10 hG, G_10_11 hG, G_11_0 hG, G_12_2 hG, G_12_3 hG, G_12_4 hG, G_12_5 hG, G_12_7 hG, G_12_8 hG, G_12_9 hG, G_12_12 hG, G_12_13 hG, G_12_14 hG, G_12_22 hG, G_12_23 hG, G_12_29 hG, G_12_30 hG, G_12_31 hG, G_12_37 hG, G_12_38 hG, G_12_39 hG, G_12_40 hG, G_12_41 hG, G_12_43 hG, G_12_46 hG, G_12_47 hG, G_12_48 hG, G_25 hG, G_26 hG, G_47 hG, G_58 hG, wI_at, n32_add, n32_mul, n32_lt, n32_le, n32_eq, n32_clamp, n32_inT, n32_div, n32_rem, n32_m1, n32_m1', n32_m1lt, n32_ltm1, n32_10, n32_01, Nat.not_lt_zero, Nat.lt_irrefl, Nat.mul_zero, Nat.zero_mul, Nat.zero_add, Nat.add_zero, Nat.reduceEqDiff, Nat.one_ne_zero, Nat.zero_ne_one, ax_psh_none, ax_psh_some, true_and, and_true, and_false, false_and, not_true_eq_false, not_false_eq_true, true_imp_iff, false_imp_iff, imp_self, or_true, true_or, or_false, false_or, and_self, ite_true, ite_false, if_true, if_false, reduceIte, Nat.reduceEqDiff, Nat.reduceLT, Nat.reduceAdd, Nat.reduceMul, Nat.reduceSub, Nat.reduceDiv, Nat.reduceMod, Nat.reduceLeDiff]
/-- what is told by two numbers, before it is bounded -/
def raw (k : Nat) (x y : Int) : Int := match k with
  | 2 => x + y
  | 3 => x - y
  | 4 => x * y
  | 5 => if y = 0 then 1000000001 else x.tdiv y
  | k => if cmI k x y = true then 1 else 0
theorem raw_op {k : Nat} (hk : 2 ≤ k ∧ k ≤ 5) (x y : Int) : limI (raw k x y) = opI k x y := by
  obtain ⟨h1, h2⟩ := hk
  match k, h1, h2 with
  | 2, _, _ => rfl
  | 3, _, _ => rfl
  | 4, _, _ => rfl
  | 5, _, _ =>
    show limI (if y = 0 then 1000000001 else x.tdiv y) = if y = 0 then none else limI (x.tdiv y)
    by_cases h : y = 0
    · rw [if_pos h, if_pos h]
      decide
    · rw [if_neg h, if_neg h]
theorem raw_cm {k : Nat} (hk : 6 ≤ k ∧ k ≤ 8) (x y : Int) : raw k x y = if cmI k x y = true then 1 else 0 := by
  obtain ⟨h1, h2⟩ := hk
  match k, h1, h2 with
  | 6, _, _ => rfl
  | 7, _, _ => rfl
  | 8, _, _ => rfl
theorem raw_g {k : Nat} (hk : 2 ≤ k ∧ k ≤ 8) {x y : Int} (hx : Bd x) (hy : Bd y) : Bg (raw k x y) := by
  obtain ⟨h1, h2⟩ := hk
  match k, h1, h2 with
  | 2, _, _ => exact Bg_add hx hy
  | 3, _, _ => exact Bg_sub hx hy
  | 4, _, _ => exact Bg_mul hx hy
  | 5, _, _ =>
    show Bg (if y = 0 then 1000000001 else x.tdiv y)
    split
    · unfold Bg
      omega
    · exact Bd_g (Bd_div hx)
  | 6, _, _ => exact Bd_g (Bd_01 _)
  | 7, _, _ => exact Bd_g (Bd_01 _)
  | 8, _, _ => exact Bd_g (Bd_01 _)
theorem c_combined (d : Nat) (gi : GI) (g : AG) (Q : Option AV → AH → Prop) {k : Nat} (hk : 2 ≤ k ∧ k ≤ 8) {x y : Int} (hx : Bd x) (hy : Bd y) : ax_call (d + 1) m_Mach_combined [.inl (n32 k), .inr (.inl (lv x)), .inr (.inl (lv y))] (gi, g) Q = Q (some (.inr (.inl (lv (raw k x y))))) (gi, g) := by
  obtain ⟨h1, h2⟩ := hk
  have z0 : (n32 0).toInt64 = lv 0 := by decide
  have z1 : (n32 1).toInt64 = lv 1 := by decide
  have z9 : (n32 1000000001).toInt64 = lv 1000000001 := by decide
  have g0 : Bg 0 := by unfold Bg; omega
  match k, h1, h2 with
  | 2, _, _ =>
    rw [e_Mach_combined, b_Mach_combined_0, show ax_tsw 3 (n32 2) = 40 by decide, b_Mach_combined_40, lo_add]
    rfl
  | 3, _, _ =>
    rw [e_Mach_combined, b_Mach_combined_0, show ax_tsw 3 (n32 3) = 44 by decide, b_Mach_combined_44, lo_sub]
    rfl
  | 4, _, _ =>
    rw [e_Mach_combined, b_Mach_combined_0, show ax_tsw 3 (n32 4) = 48 by decide, b_Mach_combined_48, lo_mul]
    rfl
  | 5, _, _ =>
    rw [e_Mach_combined, b_Mach_combined_0, show ax_tsw 3 (n32 5) = 52 by decide]
    by_cases h : y = 0
    · subst h
      simp only [b_Mach_combined_52, b_Mach_combined_58, b_Mach_combined_67, z0, z9, cmp_eq g0 g0, ax_psh_none, ax_psh_some, true_and, and_true, and_false, false_and, not_true_eq_false, not_false_eq_true, true_imp_iff, false_imp_iff, imp_self, or_true, true_or, or_false, false_or, and_self, ite_true, ite_false, if_true, if_false, raw]
    · simp only [b_Mach_combined_52, b_Mach_combined_64, b_Mach_combined_67, z0, cmp_eq (Bd_g hy) g0, h, lo_ne0 (Bd_g hy) h, lo_div hx hy, ax_psh_none, ax_psh_some, true_and, and_true, and_false, false_and, not_true_eq_false, not_false_eq_true, true_imp_iff, false_imp_iff, imp_self, or_true, true_or, or_false, false_or, and_self, ite_true, ite_false, if_true, if_false, raw]
  | 6, _, _ =>
    rw [e_Mach_combined, b_Mach_combined_0, show ax_tsw 3 (n32 6) = 68 by decide]
    by_cases h : x < y
    · simp only [b_Mach_combined_68, b_Mach_combined_74, b_Mach_combined_79, z1, cmp_lt (Bd_g hx) (Bd_g hy), h, ax_psh_none, ax_psh_some, true_and, and_true, and_false, false_and, not_true_eq_false, not_false_eq_true, true_imp_iff, false_imp_iff, imp_self, or_true, true_or, or_false, false_or, and_self, ite_true, ite_false, if_true, if_false, raw, cmI, decide_true]
    · simp only [b_Mach_combined_68, b_Mach_combined_78, b_Mach_combined_79, z0, cmp_lt (Bd_g hx) (Bd_g hy), h, ax_psh_none, ax_psh_some, true_and, and_true, and_false, false_and, not_true_eq_false, not_false_eq_true, true_imp_iff, false_imp_iff, imp_self, or_true, true_or, or_false, false_or, and_self, ite_true, ite_false, if_true, if_false, raw, cmI, decide_false, Bool.false_eq_true]
  | 7, _, _ =>
    rw [e_Mach_combined, b_Mach_combined_0, show ax_tsw 3 (n32 7) = 80 by decide]
    by_cases h : y < x
    · simp only [b_Mach_combined_80, b_Mach_combined_86, b_Mach_combined_91, z1, cmp_gt (Bd_g hx) (Bd_g hy), h, ax_psh_none, ax_psh_some, true_and, and_true, and_false, false_and, not_true_eq_false, not_false_eq_true, true_imp_iff, false_imp_iff, imp_self, or_true, true_or, or_false, false_or, and_self, ite_true, ite_false, if_true, if_false, raw, cmI, decide_true]
    · simp only [b_Mach_combined_80, b_Mach_combined_90, b_Mach_combined_91, z0, cmp_gt (Bd_g hx) (Bd_g hy), h, ax_psh_none, ax_psh_some, true_and, and_true, and_false, false_and, not_true_eq_false, not_false_eq_true, true_imp_iff, false_imp_iff, imp_self, or_true, true_or, or_false, false_or, and_self, ite_true, ite_false, if_true, if_false, raw, cmI, decide_false, Bool.false_eq_true]
  | 8, _, _ =>
    rw [e_Mach_combined, b_Mach_combined_0, show ax_tsw 3 (n32 8) = 92 by decide]
    by_cases h : x = y
    · subst h
      simp only [b_Mach_combined_92, b_Mach_combined_98, b_Mach_combined_103, z1, cmp_eq (Bd_g hx) (Bd_g hx), ax_psh_none, ax_psh_some, true_and, and_true, and_false, false_and, not_true_eq_false, not_false_eq_true, true_imp_iff, false_imp_iff, imp_self, or_true, true_or, or_false, false_or, and_self, ite_true, ite_false, if_true, if_false, raw, cmI, decide_true]
    · simp only [b_Mach_combined_92, b_Mach_combined_102, b_Mach_combined_103, z0, cmp_eq (Bd_g hx) (Bd_g hy), h, ax_psh_none, ax_psh_some, true_and, and_true, and_false, false_and, not_true_eq_false, not_false_eq_true, true_imp_iff, false_imp_iff, imp_self, or_true, true_or, or_false, false_or, and_self, ite_true, ite_false, if_true, if_false, raw, cmI, decide_false, Bool.false_eq_true]
