/-! the class's machine: steps gone through -/
def xMod (s j : Nat) : Bool := (s == 5 && (j == 2 || j == 3)) || s == 42
def XCtx (e : Nat → Int) (gi : GI) (g : AG) (q En : Nat) : Prop := GOK g ∧ g.1 4 q 4 = some (62, 3 * q + 1) ∧ g.1 4 q 5 = some (62, 3 * q + 2) ∧ (En ≤ g.2.2.1 62 (3 * q + 1) ∧ g.2.2.1 62 (3 * q + 1) ≤ 401) ∧ (En ≤ g.2.2.1 62 (3 * q + 2) ∧ g.2.2.1 62 (3 * q + 2) ≤ 401) ∧ ∀ j, j < 8 → gi 41 0 j = iv (e j) ∧ Bd (e j)
theorem XCtx_fr {e : Nat → Int} {gi gi' : GI} {g : AG} {q En : Nat} (h : XCtx e gi g q En) (hf : Fr xMod gi gi') : XCtx e gi' g q En := by
  obtain ⟨h1, h2, h3, h4, h5, h6⟩ := h
  refine ⟨h1, h2, h3, h4, h5, fun j hj => ?_⟩
  rw [hf 41 0 j rfl]
  exact h6 j hj
theorem Code_fr {gi gi' : GI} {q s : Nat} {k : List (Nat × Nat)} (h : CodeAt (gi 62 (3 * q + 1)) (gi 62 (3 * q + 2)) s k) (hf : Fr xMod gi gi') : CodeAt (gi' 62 (3 * q + 1)) (gi' 62 (3 * q + 2)) s k := CodeAt_congr h (fun j _ _ => ⟨hf 62 _ j rfl, hf 62 _ j rfl⟩)
theorem x_broken {d : Nat} {gi : GI} {g : AG} {Q : Option AV → AH → Prop} {q : Nat} {x2 a : Int32} {En : Nat} {o5 o6 o7 : Option AV} (hb : gi 5 0 3 = n32 1) (hq : Q (some (.inl (n32 0))) (gi, g)) : Runs d (m_Mach_holds, 27, [some (.inr (.inr (some (5, 0)))), some (.inr (.inr (some (4, q)))), some (.inl x2), some (.inl (a)), some (.inl (n32 En)), o5, o6, o7], []) (gi, g) Q := by
  have z : Runs d (m_Mach_holds, 196, [some (.inr (.inr (some (5, 0)))), some (.inr (.inr (some (4, q)))), some (.inl x2), some (.inl (a)), some (.inl (n32 En)), o5, o6, o7], []) (gi, g) Q := by
    simp only [b_Mach_holds_196, b_Mach_holds_224, b_Mach_holds_225, hb, n32_10, ax_psh_none, ax_psh_some, true_and, and_true, and_false, false_and, not_true_eq_false, not_false_eq_true, true_imp_iff, false_imp_iff, imp_self, or_true, true_or, or_false, false_or, and_self, ite_true, ite_false, if_true, if_false]
    exact hq
  rw [b_Mach_holds_27]
  refine ⟨fun _ => ?_, fun _ => z⟩
  rw [b_Mach_holds_33]
  refine ⟨fun q => ?_, fun _ => z⟩
  rw [hb, n32_10] at q
  exact q.elim
def StkP (gi gi' : GI) (t : Nat) (x : Int32) : Prop := Fr xMod gi gi' ∧ gi' 5 0 3 = n32 0 ∧ gi' 5 0 2 = n32 (t + 1) ∧ gi' 42 0 t = x ∧ ∀ j, j < t → gi' 42 0 j = gi 42 0 j
theorem Stk_push {gi gi1 : GI} {t : Nat} {x : Int32} (hf : Fr xMod gi gi1) (hb : gi1 5 0 3 = n32 0) (hl : ∀ j, j < t → gi1 42 0 j = gi 42 0 j) : StkP gi (ax_wI (ax_wI gi1 42 0 t x) 5 0 2 (n32 (t + 1))) t x := by
  refine ⟨Fr_wI (Fr_wI hf rfl) rfl, by simp [wI_at, hb], by simp [wI_at], by simp [wI_at], fun j hj => ?_⟩
  have : ¬ j = t := by omega
  simp [wI_at, this, hl j hj]
/-- a number -/
theorem x_num {d : Nat} {gi : GI} {g : AG} {Q : Option AV → AH → Prop} {q En t s w : Nat} {x2 : Int32} {o5 o6 o7 : Option AV} {e : Nat → Int} (hx : XCtx e gi g q En) (hs : s < En) (h1 : gi 62 (3 * q + 1) s = n32 0) (h2 : gi 62 (3 * q + 2) s = n32 w) (hw : w ≤ 1000000000) (hb : gi 5 0 3 = n32 0) (ht : gi 5 0 2 = n32 t) (ht64 : t < 64)
    (hq : ∀ gi' p5 p6 p7, StkP gi gi' t (iv w) → Runs (d + 1) (m_Mach_holds, 27, [some (.inr (.inr (some (5, 0)))), some (.inr (.inr (some (4, q)))), some (.inl x2), some (.inl (n32 (s + 1))), some (.inl (n32 En)), p5, p6, p7], []) (gi', g) Q) : Runs (d + 1) (m_Mach_holds, 27, [some (.inr (.inr (some (5, 0)))), some (.inr (.inr (some (4, q)))), some (.inl x2), some (.inl (n32 s)), some (.inl (n32 En)), o5, o6, o7], []) (gi, g) Q := by
  obtain ⟨hG, r4, r5, l4, l5, -⟩ := hx
  rw [b_Mach_holds_27]
  simp (disch := omega) only [b_Mach_holds_33, b_Mach_holds_40, b_Mach_holds_64, b_Mach_holds_71, b_Mach_holds_193, hs, hb, r4, r5, h1, h2, lo_n, c_push_y d hG ht ht64 (Bd_n hw), n32_add, n32_mul, n32_lt, n32_le, n32_eq, n32_clamp, n32_inT, n32_div, n32_rem, n32_m1, n32_m1', n32_m1lt, n32_ltm1, n32_10, n32_01, Nat.not_lt_zero, Nat.lt_irrefl, Nat.mul_zero, Nat.zero_mul, Nat.zero_add, Nat.add_zero, Nat.reduceEqDiff, Nat.one_ne_zero, Nat.zero_ne_one, ax_psh_none, ax_psh_some, true_and, and_true, and_false, false_and, not_true_eq_false, not_false_eq_true, true_imp_iff, false_imp_iff, imp_self, or_true, true_or, or_false, false_or, and_self, ite_true, ite_false, if_true, if_false]
  exact hq _ _ _ _ (Stk_push (Fr_refl _ _) hb (fun _ _ => rfl))
/-- a fact -/
theorem x_fact {d : Nat} {gi : GI} {g : AG} {Q : Option AV → AH → Prop} {q En t s w : Nat} {x2 : Int32} {o5 o6 o7 : Option AV} {e : Nat → Int} (hx : XCtx e gi g q En) (hs : s < En) (h1 : gi 62 (3 * q + 1) s = n32 1) (h2 : gi 62 (3 * q + 2) s = n32 w) (hw : w < 8) (hb : gi 5 0 3 = n32 0) (ht : gi 5 0 2 = n32 t) (ht64 : t < 64)
    (hq : ∀ gi' p5 p6 p7, StkP gi gi' t (iv (e w)) → Runs (d + 1) (m_Mach_holds, 27, [some (.inr (.inr (some (5, 0)))), some (.inr (.inr (some (4, q)))), some (.inl x2), some (.inl (n32 (s + 1))), some (.inl (n32 En)), p5, p6, p7], []) (gi', g) Q) : Runs (d + 1) (m_Mach_holds, 27, [some (.inr (.inr (some (5, 0)))), some (.inr (.inr (some (4, q)))), some (.inl x2), some (.inl (n32 s)), some (.inl (n32 En)), o5, o6, o7], []) (gi, g) Q := by
  obtain ⟨hG, r4, r5, l4, l5, hf⟩ := hx
  obtain ⟨f1, f2⟩ := hf w hw
  rw [b_Mach_holds_27]
  simp (disch := omega) only [b_Mach_holds_33, b_Mach_holds_40, b_Mach_holds_74, b_Mach_holds_80, b_Mach_holds_92, b_Mach_holds_193, hs, hb, r4, r5, h1, h2, G_0_0 hG, G_0_1 hG, G_0_2 hG, G_0_3 hG, G_0_7 hG, G_0_10 hG, G_0_12 hG, G_0_13 hG, G_0_14 hG, G_0_15 hG, G_0_16 hG, G_0_17 hG, G_1_0 hG, G_1_2 hG, G_1_5 hG, G_2_4 hG, G_2_5 hG, G_3_5 hG, G_3_6 hG, G_3_7 hG, G_3_8 hG, G_3_9 hG, G_5_0 hG, G_5_1 hG, G_6_0 hG, G_6_1 hG, G_6_2 hG, G_6_9 hG, G_6_10 hG, G_6_11 hG, G_6_12 hG, G_6_13 hG, G_7_0 hG, G_7_5 hG, G_8_8 hG, G_8_9 hG, G_9_8 hG, G_9_9 hG, G_10_7 hG, G_10_8 hG, G_10_9 hG, G_10_10 hG, G_10_11 hG, G_11_0 hG, G_12_2 hG, G_12_3 hG, G_12_4 hG, G_12_5 hG, G_12_7 hG, G_12_8 hG, G_12_9 hG, G_12_12 hG, G_12_13 hG, G_12_14 hG, G_12_22 hG, G_12_23 hG, G_12_29 hG, G_12_30 hG, G_12_31 hG, G_12_37 hG, G_12_38 hG, G_12_39 hG, G_12_40 hG, G_12_41 hG, G_12_43 hG, G_12_46 hG, G_12_47 hG, G_12_48 hG, G_25 hG, G_26 hG, G_47 hG, G_58 hG, f1, iv_64 f2, c_push_y d hG ht ht64 f2, n32_add, n32_mul, n32_lt, n32_le, n32_eq, n32_clamp, n32_inT, n32_div, n32_rem, n32_m1, n32_m1', n32_m1lt, n32_ltm1, n32_10, n32_01, Nat.not_lt_zero, Nat.lt_irrefl, Nat.mul_zero, Nat.zero_mul, Nat.zero_add, Nat.add_zero, Nat.reduceEqDiff, Nat.one_ne_zero, Nat.zero_ne_one, ax_psh_none, ax_psh_some, true_and, and_true, and_false, false_and, not_true_eq_false, not_false_eq_true, true_imp_iff, false_imp_iff, imp_self, or_true, true_or, or_false, false_or, and_self, ite_true, ite_false, if_true, if_false]
  exact hq _ _ _ _ (Stk_push (Fr_refl _ _) hb (fun _ _ => rfl))
/-- two numbers put together -/
theorem x_op {d : Nat} {gi : GI} {g : AG} {Q : Option AV → AH → Prop} {q En t s k w : Nat} {x2 : Int32} {o5 o6 o7 : Option AV} {e : Nat → Int} {x y : Int} (hx : XCtx e gi g q En) (hs : s < En) (h1 : gi 62 (3 * q + 1) s = n32 k) (h2 : gi 62 (3 * q + 2) s = n32 w) (hk : 2 ≤ k ∧ k ≤ 8) (hb : gi 5 0 3 = n32 0) (ht : gi 5 0 2 = n32 (t + 2)) (ht64 : t + 2 ≤ 64) (hxx : gi 42 0 t = iv x) (hyy : gi 42 0 (t + 1) = iv y) (bx : Bd x) (bY : Bd y)
    (hq : Bd (raw k x y) → ∀ gi' p5 p6 p7, StkP gi gi' t (iv (raw k x y)) → Runs (d + 1) (m_Mach_holds, 27, [some (.inr (.inr (some (5, 0)))), some (.inr (.inr (some (4, q)))), some (.inl x2), some (.inl (n32 (s + 1))), some (.inl (n32 En)), p5, p6, p7], []) (gi', g) Q)
    (hn : ¬ Bd (raw k x y) → ∀ gi', Fr xMod gi gi' → Q (some (.inl (n32 0))) (gi', g)) : Runs (d + 1) (m_Mach_holds, 27, [some (.inr (.inr (some (5, 0)))), some (.inr (.inr (some (4, q)))), some (.inl x2), some (.inl (n32 s)), some (.inl (n32 En)), o5, o6, o7], []) (gi, g) Q := by
  obtain ⟨hG, r4, r5, l4, l5, -⟩ := hx
  have t1 : ax_wI gi 5 0 2 (n32 (t + 1)) 5 0 2 = n32 (t + 1) := by simp [wI_at]
  have y1 : ax_wI gi 5 0 2 (n32 (t + 1)) 42 0 t = iv x := by simp [wI_at, hxx]
  have k0 : ¬ k = 0 := by omega
  have k1 : ¬ k = 1 := by omega
  have k9 : ¬ k = 9 := by omega
  have k10 : ¬ k = 10 := by omega
  have k11 : ¬ k = 11 := by omega
  rw [b_Mach_holds_27]
  simp (disch := omega) only [b_Mach_holds_33, b_Mach_holds_40, b_Mach_holds_74, b_Mach_holds_95, b_Mach_holds_116, b_Mach_holds_123, b_Mach_holds_170, b_Mach_holds_174, b_Mach_holds_183, b_Mach_holds_190, hs, hb, r4, r5, h1, h2, k0, k1, k9, k10, k11, c_pop d hG (k := t + 1) ht (by omega), hyy, c_pop d hG (k := t) t1 (by omega), y1, iv_64 bx, iv_64 bY, c_combined d _ _ _ hk bx bY, n32_add, n32_mul, n32_lt, n32_le, n32_eq, n32_clamp, n32_inT, n32_div, n32_rem, n32_m1, n32_m1', n32_m1lt, n32_ltm1, n32_10, n32_01, Nat.not_lt_zero, Nat.lt_irrefl, Nat.mul_zero, Nat.zero_mul, Nat.zero_add, Nat.add_zero, Nat.reduceEqDiff, Nat.one_ne_zero, Nat.zero_ne_one, ax_psh_none, ax_psh_some, true_and, and_true, and_false, false_and, not_true_eq_false, not_false_eq_true, true_imp_iff, false_imp_iff, imp_self, or_true, true_or, or_false, false_or, and_self, ite_true, ite_false, if_true, if_false]
  have ww : ∀ a b, ax_wI (ax_wI gi 5 0 2 a) 5 0 2 b = ax_wI gi 5 0 2 b := fun a b => by
    funext s a j
    simp only [wI_at]
    split <;> rfl
  rw [ww]
  have t2 : ax_wI gi 5 0 2 (n32 t) 5 0 2 = n32 t := by simp [wI_at]
  by_cases hbd : Bd (raw k x y)
  · simp only [c_push_y d hG t2 (by omega) hbd, b_Mach_holds_193, ax_psh_none, ax_psh_some, true_and, and_true, and_false, false_and, not_true_eq_false, not_false_eq_true, true_imp_iff, false_imp_iff, imp_self, or_true, true_or, or_false, false_or, and_self, ite_true, ite_false, if_true, if_false]
    exact hq hbd _ _ _ _ (Stk_push (Fr_wI (Fr_refl _ _) rfl) (by simp [wI_at, hb]) (fun _ _ => by simp [wI_at]))
  · simp only [c_push_n d hG (raw_g hk bx bY) hbd, b_Mach_holds_193, ax_psh_none, ax_psh_some, true_and, and_true, and_false, false_and, not_true_eq_false, not_false_eq_true, true_imp_iff, false_imp_iff, imp_self, or_true, true_or, or_false, false_or, and_self, ite_true, ite_false, if_true, if_false]
    exact x_broken (by simp [wI_at]) (hn hbd _ (Fr_wI (Fr_wI (Fr_refl _ _) rfl) rfl))
theorem b32_not (b : Bool) : n32 1 - b32 b = b32 (!b) := by cases b <;> decide
theorem b32_64 (b : Bool) : (b32 b).toInt64 = lv (if b = true then 1 else 0) := by rw [b32_iv, iv_64 (Bd_01 b)]
/-- not so -/
theorem x_not {d : Nat} {gi : GI} {g : AG} {Q : Option AV → AH → Prop} {q En t s w : Nat} {x2 : Int32} {o5 o6 o7 : Option AV} {e : Nat → Int} {b : Bool} (hx : XCtx e gi g q En) (hs : s < En) (h1 : gi 62 (3 * q + 1) s = n32 9) (h2 : gi 62 (3 * q + 2) s = n32 w) (hb : gi 5 0 3 = n32 0) (ht : gi 5 0 2 = n32 (t + 1)) (ht64 : t + 1 ≤ 64) (hxx : gi 42 0 t = b32 b)
    (hq : ∀ gi' p5 p6 p7, StkP gi gi' t (b32 (!b)) → Runs (d + 1) (m_Mach_holds, 27, [some (.inr (.inr (some (5, 0)))), some (.inr (.inr (some (4, q)))), some (.inl x2), some (.inl (n32 (s + 1))), some (.inl (n32 En)), p5, p6, p7], []) (gi', g) Q) : Runs (d + 1) (m_Mach_holds, 27, [some (.inr (.inr (some (5, 0)))), some (.inr (.inr (some (4, q)))), some (.inl x2), some (.inl (n32 s)), some (.inl (n32 En)), o5, o6, o7], []) (gi, g) Q := by
  obtain ⟨hG, r4, r5, l4, l5, -⟩ := hx
  have t2 : ax_wI gi 5 0 2 (n32 t) 5 0 2 = n32 t := by simp [wI_at]
  rw [b_Mach_holds_27]
  simp (disch := omega) only [b_Mach_holds_33, b_Mach_holds_40, b_Mach_holds_74, b_Mach_holds_95, b_Mach_holds_102, b_Mach_holds_108, b_Mach_holds_113, b_Mach_holds_193, hs, hb, r4, r5, h1, h2, c_pop d hG (k := t) ht (by omega), hxx, b32_not, b32_64, c_push_y d hG t2 (by omega) (Bd_01 _), n32_add, n32_mul, n32_lt, n32_le, n32_eq, n32_clamp, n32_inT, n32_div, n32_rem, n32_m1, n32_m1', n32_m1lt, n32_ltm1, n32_10, n32_01, Nat.not_lt_zero, Nat.lt_irrefl, Nat.mul_zero, Nat.zero_mul, Nat.zero_add, Nat.add_zero, Nat.reduceEqDiff, Nat.one_ne_zero, Nat.zero_ne_one, ax_psh_none, ax_psh_some, true_and, and_true, and_false, false_and, not_true_eq_false, not_false_eq_true, true_imp_iff, false_imp_iff, imp_self, or_true, true_or, or_false, false_or, and_self, ite_true, ite_false, if_true, if_false]
  rw [← b32_iv]
  exact hq _ _ _ _ (Stk_push (Fr_wI (Fr_refl _ _) rfl) (by simp [wI_at, hb]) (fun _ _ => by simp [wI_at]))
/-- what decides all is left, else what stands behind takes its room -/
theorem x_leap {d : Nat} {gi : GI} {g : AG} {Q : Option AV → AH → Prop} {q En t s k w : Nat} {x2 : Int32} {o5 o6 o7 : Option AV} {e : Nat → Int} {b sh : Bool} (hx : XCtx e gi g q En) (hs : s < En) (h1 : gi 62 (3 * q + 1) s = n32 k) (h2 : gi 62 (3 * q + 2) s = n32 w) (hk : k = 10 ∧ sh = true ∨ k = 11 ∧ sh = false) (hw : s + 1 ≤ w ∧ w ≤ 1000) (hb : gi 5 0 3 = n32 0) (ht : gi 5 0 2 = n32 (t + 1)) (ht64 : t + 1 ≤ 64) (hxx : gi 42 0 t = b32 b)
    (hy : b = sh → ∀ gi' p5 p6 p7, StkP gi gi' t (b32 b) → Runs (d + 1) (m_Mach_holds, 27, [some (.inr (.inr (some (5, 0)))), some (.inr (.inr (some (4, q)))), some (.inl x2), some (.inl (n32 w)), some (.inl (n32 En)), p5, p6, p7], []) (gi', g) Q)
    (hn : b ≠ sh → ∀ gi' p5 p6 p7, Fr xMod gi gi' → gi' 5 0 3 = n32 0 → gi' 5 0 2 = n32 t → (∀ j, j < t → gi' 42 0 j = gi 42 0 j) → Runs (d + 1) (m_Mach_holds, 27, [some (.inr (.inr (some (5, 0)))), some (.inr (.inr (some (4, q)))), some (.inl x2), some (.inl (n32 (s + 1))), some (.inl (n32 En)), p5, p6, p7], []) (gi', g) Q) : Runs (d + 1) (m_Mach_holds, 27, [some (.inr (.inr (some (5, 0)))), some (.inr (.inr (some (4, q)))), some (.inl x2), some (.inl (n32 s)), some (.inl (n32 En)), o5, o6, o7], []) (gi, g) Q := by
  obtain ⟨hG, r4, r5, l4, l5, -⟩ := hx
  have t2 : ax_wI gi 5 0 2 (n32 t) 5 0 2 = n32 t := by simp [wI_at]
  have mx : (if n32 (s + 1) < n32 w then n32 w else n32 (s + 1)) = n32 w := by
    split
    · rfl
    · rename_i z
      rw [n32_lt (by omega) (by omega)] at z
      congr 1
      omega
  have fin : ∀ (x5 : Int32) (p5 : Option AV), Runs (d + 1) (m_Mach_holds, 150, [some (.inr (.inr (some (5, 0)))), some (.inr (.inr (some (4, q)))), some (.inl x2), some (.inl (n32 (s + 1))), some (.inl (n32 En)), p5, some (.inl (n32 w)), some (.inl (b32 b))], [.inl (b32 sh), .inl (b32 b)]) (ax_wI gi 5 0 2 (n32 t), g) Q := by
    intro x5 p5
    rw [b_Mach_holds_150]
    refine ⟨fun hh => ?_, fun hh => ?_⟩
    · have hbs : b = sh := by
        cases b <;> cases sh
        · rfl
        · exact absurd hh (by decide)
        · exact absurd hh (by decide)
        · rfl
      simp (disch := omega) only [b_Mach_holds_153, b_Mach_holds_160, b_Mach_holds_167, b_Mach_holds_193, b32_64, c_push_y d hG t2 (by omega) (Bd_01 _), mx, ax_psh_none, ax_psh_some, true_and, and_true, and_false, false_and, not_true_eq_false, not_false_eq_true, true_imp_iff, false_imp_iff, imp_self, or_true, true_or, or_false, false_or, and_self, ite_true, ite_false, if_true, if_false]
      rw [← b32_iv]
      exact hy hbs _ _ _ _ (Stk_push (Fr_wI (Fr_refl _ _) rfl) (by simp [wI_at, hb]) (fun _ _ => by simp [wI_at]))
    · rw [b_Mach_holds_167, b_Mach_holds_193]
      exact hn (fun z => hh (by rw [z])) _ _ _ _ (Fr_wI (Fr_refl _ _) rfl) (by simp [wI_at, hb]) t2 (fun _ _ => by simp [wI_at])
  rw [b_Mach_holds_27]
  rcases hk with ⟨rfl, rfl⟩ | ⟨rfl, rfl⟩
  · simp (disch := omega) only [b_Mach_holds_33, b_Mach_holds_40, b_Mach_holds_74, b_Mach_holds_95, b_Mach_holds_116, b_Mach_holds_130, b_Mach_holds_134, b_Mach_holds_145, hs, hb, r4, r5, h1, h2, c_pop d hG (k := t) ht (by omega), hxx, n32_add, n32_mul, n32_lt, n32_le, n32_eq, n32_clamp, n32_inT, n32_div, n32_rem, n32_m1, n32_m1', n32_m1lt, n32_ltm1, n32_10, n32_01, Nat.not_lt_zero, Nat.lt_irrefl, Nat.mul_zero, Nat.zero_mul, Nat.zero_add, Nat.add_zero, Nat.reduceEqDiff, Nat.one_ne_zero, Nat.zero_ne_one, ax_psh_none, ax_psh_some, true_and, and_true, and_false, false_and, not_true_eq_false, not_false_eq_true, true_imp_iff, false_imp_iff, imp_self, or_true, true_or, or_false, false_or, and_self, ite_true, ite_false, if_true, if_false]
    exact fin (n32 10) _
  · simp (disch := omega) only [b_Mach_holds_33, b_Mach_holds_40, b_Mach_holds_74, b_Mach_holds_95, b_Mach_holds_116, b_Mach_holds_123, b_Mach_holds_130, b_Mach_holds_134, b_Mach_holds_149, hs, hb, r4, r5, h1, h2, c_pop d hG (k := t) ht (by omega), hxx, n32_add, n32_mul, n32_lt, n32_le, n32_eq, n32_clamp, n32_inT, n32_div, n32_rem, n32_m1, n32_m1', n32_m1lt, n32_ltm1, n32_10, n32_01, Nat.not_lt_zero, Nat.lt_irrefl, Nat.mul_zero, Nat.zero_mul, Nat.zero_add, Nat.add_zero, Nat.reduceEqDiff, Nat.one_ne_zero, Nat.zero_ne_one, ax_psh_none, ax_psh_some, true_and, and_true, and_false, false_and, not_true_eq_false, not_false_eq_true, true_imp_iff, false_imp_iff, imp_self, or_true, true_or, or_false, false_or, and_self, ite_true, ite_false, if_true, if_false]
    exact fin (n32 11) _
/-- steps k from s on put x on the stack, or break -/
def Ex (e : Nat → Int) (need : Nat) (k : List (Nat × Nat)) (s : Nat) (m : Option Int) : Prop :=
  ∀ (d : Nat) (gi : GI) (g : AG) (Q : Option AV → AH → Prop) (q En t : Nat) (x2 : Int32) (o5 o6 o7 : Option AV), XCtx e gi g q En → CodeAt (gi 62 (3 * q + 1)) (gi 62 (3 * q + 2)) s k → s + k.length ≤ En → gi 5 0 3 = n32 0 → gi 5 0 2 = n32 t → t + need ≤ 64 →
  (∀ x gi' p5 p6 p7, m = some x → Bd x → StkP gi gi' t (iv x) → Runs (d + 1) (m_Mach_holds, 27, [some (.inr (.inr (some (5, 0)))), some (.inr (.inr (some (4, q)))), some (.inl x2), some (.inl (n32 (s + k.length))), some (.inl (n32 En)), p5, p6, p7], []) (gi', g) Q) →
  (m = none → ∀ gi', Fr xMod gi gi' → Q (some (.inl (n32 0))) (gi', g)) →
  Runs (d + 1) (m_Mach_holds, 27, [some (.inr (.inr (some (5, 0)))), some (.inr (.inr (some (4, q)))), some (.inl x2), some (.inl (n32 s)), some (.inl (n32 En)), o5, o6, o7], []) (gi, g) Q
def bI (b : Bool) : Int := if b = true then 1 else 0
theorem Ex_mono {e : Nat → Int} {need need' s : Nat} {k : List (Nat × Nat)} {m : Option Int} (h : Ex e need k s m) (hn : need ≤ need') : Ex e need' k s m := fun d gi g Q q En t x2 o5 o6 o7 hx hc hs hb ht ht64 => h d gi g Q q En t x2 o5 o6 o7 hx hc hs hb ht (by omega)
theorem Stk_trans {a b c : GI} {t : Nat} {x y : Int32} (h1 : StkP a b t x) (h2 : StkP b c (t + 1) y) : Fr xMod a c ∧ c 5 0 3 = n32 0 ∧ c 5 0 2 = n32 (t + 2) ∧ c 42 0 t = x ∧ c 42 0 (t + 1) = y ∧ ∀ j, j < t → c 42 0 j = a 42 0 j := ⟨Fr_trans h1.1 h2.1, h2.2.1, h2.2.2.1, (h2.2.2.2.2 t (by omega)).trans h1.2.2.2.1, h2.2.2.2.1, fun j hj => (h2.2.2.2.2 j (by omega)).trans (h1.2.2.2.2 j hj)⟩
/-- a then b, put together by kk -/
theorem Ex_bin {e : Nat → Int} {need s kk : Nat} {k k' : List (Nat × Nat)} {m m' : Option Int} (hkk : 2 ≤ kk ∧ kk ≤ 8) (h1 : Ex e (need + 1) k s m) (h2 : Ex e need k' (s + k.length) m') (hneed : 1 ≤ need) : Ex e (need + 1) (k ++ (k' ++ [(kk, 0)])) s (op2 (fun x y => limI (raw kk x y)) m m') := by
  intro d gi g Q q En t x2 o5 o6 o7 hx hc hs hb ht ht64 hok hno
  rw [CodeAt_append, CodeAt_append] at hc
  obtain ⟨c1, c2, c3, c4, -⟩ := hc
  simp only [List.length_append, List.length_cons, List.length_nil] at hs hok
  refine h1 d gi g Q q En t x2 o5 o6 o7 hx c1 (by omega) hb ht ht64 ?_ ?_
  · intro x gi1 p5 p6 p7 hm bx st1
    refine h2 d gi1 g Q q En (t + 1) x2 p5 p6 p7 (XCtx_fr hx st1.1) (Code_fr c2 st1.1) (by omega) st1.2.1 st1.2.2.1 (by omega) ?_ ?_
    · intro y gi2 r5 r6 r7 hm' bY st2
      obtain ⟨f1, f2, f3, f4, f5, f6⟩ := Stk_trans st1 st2
      refine x_op (XCtx_fr hx f1) (by omega) ((f1 62 _ _ rfl).trans c3) ((f1 62 _ _ rfl).trans c4) hkk f2 f3 (by omega) f4 f5 bx bY ?_ ?_
      · intro hbd gi3 u5 u6 u7 st3
        have := hok (raw kk x y) gi3 u5 u6 u7 (by rw [hm, hm']; exact limI_y hbd) hbd ⟨Fr_trans f1 st3.1, st3.2.1, st3.2.2.1, st3.2.2.2.1, fun j hj => (st3.2.2.2.2 j hj).trans (f6 j hj)⟩
        rw [show s + (k.length + (k'.length + (0 + 1))) = s + k.length + k'.length + 1 by omega] at this
        exact this
      · intro hbd gi3 fr3
        exact hno (by rw [hm, hm']; exact limI_n hbd) gi3 (Fr_trans f1 fr3)
    · intro hm' gi2 fr2
      exact hno (by rw [hm, hm']; rfl) gi2 (Fr_trans st1.1 fr2)
  · intro hm gi1 fr1
    exact hno (by rw [hm]; rfl) gi1 fr1
theorem Ex_not {e : Nat → Int} {need s : Nat} {k : List (Nat × Nat)} {m : Option Bool} (h1 : Ex e need k s (m.map bI)) (hneed : 1 ≤ need) : Ex e need (k ++ [(9, 0)]) s ((m.map (fun b => !b)).map bI) := by
  intro d gi g Q q En t x2 o5 o6 o7 hx hc hs hb ht ht64 hok hno
  rw [CodeAt_append] at hc
  obtain ⟨c1, c3, c4, -⟩ := hc
  simp only [List.length_append, List.length_cons, List.length_nil] at hs hok
  refine h1 d gi g Q q En t x2 o5 o6 o7 hx c1 (by omega) hb ht ht64 ?_ ?_
  · intro x gi1 p5 p6 p7 hm bx st1
    obtain ⟨b, rfl, hb2⟩ := Option.map_eq_some_iff.mp hm
    have hb3 : gi1 42 0 t = b32 b := by rw [st1.2.2.2.1, ← hb2, b32_iv]; rfl
    refine x_not (XCtx_fr hx st1.1) (by omega) ((st1.1 62 _ _ rfl).trans c3) ((st1.1 62 _ _ rfl).trans c4) st1.2.1 st1.2.2.1 (by omega) hb3 ?_
    intro gi2 u5 u6 u7 st2
    have := hok (bI (!b)) gi2 u5 u6 u7 rfl (Bd_01 _) ⟨Fr_trans st1.1 st2.1, st2.2.1, st2.2.2.1, by rw [st2.2.2.2.1, b32_iv]; rfl, fun j hj => (st2.2.2.2.2 j hj).trans (st1.2.2.2.2 j hj)⟩
    rw [show s + (k.length + (0 + 1)) = s + k.length + 1 by omega] at this
    exact this
  · intro hm gi1 fr1
    exact hno (by rw [Option.map_eq_none_iff] at hm; rw [hm]; rfl) gi1 fr1
theorem Ex_leap {e : Nat → Int} {need s kk : Nat} {sh : Bool} {k k' : List (Nat × Nat)} {m m' : Option Bool} (hk : kk = 10 ∧ sh = true ∨ kk = 11 ∧ sh = false) (h1 : Ex e need k s (m.map bI)) (h2 : Ex e need k' (s + k.length + 1) (m'.map bI)) (hneed : 1 ≤ need) : Ex e need (k ++ ((kk, s + k.length + 1 + k'.length) :: k')) s ((dec2 sh m m').map bI) := by
  intro d gi g Q q En t x2 o5 o6 o7 hx hc hs hb ht ht64 hok hno
  rw [CodeAt_append] at hc
  obtain ⟨c1, c3, c4, c2⟩ := hc
  simp only [List.length_append, List.length_cons] at hs hok
  have hEn : En ≤ 401 := Nat.le_trans hx.2.2.2.1.1 hx.2.2.2.1.2
  refine h1 d gi g Q q En t x2 o5 o6 o7 hx c1 (by omega) hb ht ht64 ?_ ?_
  · intro x gi1 p5 p6 p7 hm bx st1
    obtain ⟨b, rfl, hb2⟩ := Option.map_eq_some_iff.mp hm
    have hb3 : gi1 42 0 t = b32 b := by rw [st1.2.2.2.1, ← hb2, b32_iv]; rfl
    refine x_leap (sh := sh) (XCtx_fr hx st1.1) (by omega) ((st1.1 62 _ _ rfl).trans c3) ((st1.1 62 _ _ rfl).trans c4) hk (by omega) st1.2.1 st1.2.2.1 (by omega) hb3 ?_ ?_
    · intro hbs gi2 u5 u6 u7 st2
      have := hok (bI b) gi2 u5 u6 u7 (by simp only [dec2, hbs, if_true]; rfl) (Bd_01 _) ⟨Fr_trans st1.1 st2.1, st2.2.1, st2.2.2.1, by rw [st2.2.2.2.1, b32_iv]; rfl, fun j hj => (st2.2.2.2.2 j hj).trans (st1.2.2.2.2 j hj)⟩
      rw [show s + (k.length + (k'.length + 1)) = s + k.length + 1 + k'.length by omega] at this
      exact this
    · intro hbs gi2 u5 u6 u7 fr2 b2 t2 l2
      have fr := Fr_trans st1.1 fr2
      refine h2 d gi2 g Q q En t x2 u5 u6 u7 (XCtx_fr hx fr) (Code_fr c2 fr) (by omega) b2 t2 (by omega) ?_ ?_
      · intro y gi3 v5 v6 v7 hm' bY st3
        have := hok y gi3 v5 v6 v7 (by simp only [dec2, hbs, if_false]; exact hm') bY ⟨Fr_trans fr st3.1, st3.2.1, st3.2.2.1, st3.2.2.2.1, fun j hj => (st3.2.2.2.2 j hj).trans ((l2 j hj).trans (st1.2.2.2.2 j hj))⟩
        rw [show s + (k.length + (k'.length + 1)) = s + k.length + 1 + k'.length by omega] at this
        exact this
      · intro hm' gi3 fr3
        exact hno (by simp only [dec2, hbs, if_false]; exact hm') gi3 (Fr_trans fr fr3)
  · intro hm gi1 fr1
    exact hno (by rw [Option.map_eq_none_iff] at hm; rw [hm]; rfl) gi1 fr1
