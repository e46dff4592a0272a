/-! the reference daubs -/
theorem BK_f {gi gi' : GI} {g : AG} {Ls : Nat → List PC} {nt m : Nat} {K : Nat → Int32} (h : BK gi g Ls nt m K) (hs : ∀ s a j, s = 64 ∨ s = 1 ∨ s = 28 ∨ s = 2 ∨ s = 29 ∨ s = 30 ∨ s = 4 ∨ s = 60 ∨ s = 61 ∨ s = 62 → gi' s a j = gi s a j) : BK gi' g Ls nt m K := by
  obtain ⟨rfl, hG, hN, hT, hL⟩ := h
  exact ⟨funext (fun j => hs 64 0 j (by omega)), hG, BooksN_of hN (fun j _ _ => rfl) (fun s j q => hs s _ j (by omega)), ThingsR_of hT hN.1 (fun j _ => rfl) (fun s a j q => hs s a j (by omega)), LawsR_of hL hN.2.1 (fun j _ _ => rfl) (fun s a j q => hs s a j (by omega)) (GF_refl hG)⟩
theorem dMod_no {s j : Nat} (h : ¬ (s = 3 ∨ s = 5 ∨ s = 7 ∨ s = 11 ∨ (39 ≤ s ∧ s ≤ 42) ∨ (53 ≤ s ∧ s ≤ 59) ∨ (69 ≤ s ∧ s ≤ 76) ∨ (78 ≤ s ∧ s ≤ 86) ∨ s = 24 ∨ (s = 12 ∧ ((15 ≤ j ∧ j ≤ 28) ∨ 42 ≤ j)))) : dMod s j = false := by
  cases hz : dMod s j with
  | false => rfl
  | true =>
    exfalso
    unfold dMod qMod at hz
    have hb : ∀ x y : Nat, Nat.ble x y = true ↔ x ≤ y := fun x y => by rw [Nat.ble_eq]
    simp only [Bool.or_eq_true, Bool.and_eq_true, beq_iff_eq, hb] at hz
    omega
def mdMod (s j : Nat) : Bool := (s == 12 && ((Nat.ble 15 j && Nat.ble j 28) || j == 49 || j == 50)) || s == 73 || s == 74 || s == 85 || s == 86
theorem mdMod_no {s j : Nat} (h : ¬ ((s = 12 ∧ ((15 ≤ j ∧ j ≤ 28) ∨ j = 49 ∨ j = 50)) ∨ s = 73 ∨ s = 74 ∨ s = 85 ∨ s = 86)) : mdMod s j = false := by
  cases hz : mdMod s j with
  | false => rfl
  | true =>
    exfalso
    unfold mdMod at hz
    have hb : ∀ x y : Nat, Nat.ble x y = true ↔ x ≤ y := fun x y => by rw [Nat.ble_eq]
    simp only [Bool.or_eq_true, Bool.and_eq_true, beq_iff_eq, hb] at hz
    omega
theorem mdMod_f {s j : Nat} (h : mdMod s j = false) : ¬ ((s = 12 ∧ ((15 ≤ j ∧ j ≤ 28) ∨ j = 49 ∨ j = 50)) ∨ s = 73 ∨ s = 74 ∨ s = 85 ∨ s = 86) := by
  unfold mdMod at h
  have hb : ∀ x y : Nat, Nat.ble x y = true ↔ x ≤ y := fun x y => by rw [Nat.ble_eq]
  rw [← Bool.not_eq_true] at h
  simp only [Bool.or_eq_true, Bool.and_eq_true, beq_iff_eq, hb] at h
  omega
theorem layMod_no {s j : Nat} (h : ¬ ((s = 12 ∧ 24 ≤ j ∧ j ≤ 28) ∨ s = 74)) : layMod s j = false := by
  cases hz : layMod s j with
  | false => rfl
  | true =>
    exfalso
    unfold layMod at hz
    have hb : ∀ x y : Nat, Nat.ble x y = true ↔ x ≤ y := fun x y => by rw [Nat.ble_eq]
    simp only [Bool.or_eq_true, Bool.and_eq_true, beq_iff_eq, hb] at hz
    omega
theorem taxMod_no {s j : Nat} (h : ¬ ((s = 12 ∧ (j = 19 ∨ j = 20 ∨ j = 21)) ∨ s = 73)) : taxMod s j = false := by
  cases hz : taxMod s j with
  | false => rfl
  | true =>
    exfalso
    unfold taxMod at hz
    simp only [Bool.or_eq_true, Bool.and_eq_true, beq_iff_eq] at hz
    omega
theorem md_l {gi gi' : GI} (h : Fr layMod gi gi') : Fr mdMod gi gi' := Fr_mono h (fun s j q => layMod_no (by have := mdMod_f q; omega))
theorem md_t {gi gi' : GI} (h : Fr taxMod gi gi') : Fr mdMod gi gi' := Fr_mono h (fun s j q => taxMod_no (by have := mdMod_f q; omega))
theorem d_md {gi gi' : GI} (h : Fr mdMod gi gi') : Fr dMod gi gi' := Fr_mono h (fun s j q => by
  cases hz : mdMod s j with
  | false => rfl
  | true =>
    exfalso
    unfold mdMod at hz
    unfold dMod qMod at q
    have hb : ∀ x y : Nat, Nat.ble x y = true ↔ x ≤ y := fun x y => by rw [Nat.ble_eq]
    rw [← Bool.not_eq_true] at q
    simp only [Bool.or_eq_true, Bool.and_eq_true, beq_iff_eq, hb] at hz q
    omega)
theorem md_copy {d t W T : Nat} {b : Nat → Nat} {gi : GI} {g : AG} {Q : Option AV → AH → Prop} (hG : GOK g) (h25 : gi 12 0 25 = n32 W) (h26 : gi 12 0 26 = n32 T) (hW : W ≤ 8) (hT : T ≤ 8) (ht : t < 6) (h86 : ∀ c, c < W * T → gi 86 0 (64 * t + c) = n32 (b c)) (o1 : Option AV) (x2 x3 x4 : Int32)
    (hq : ∀ gi' o6, (∀ s a j, s ≠ 74 → gi' s a j = gi s a j) → (∀ c, c < W * T → gi' 74 0 c = n32 (b c)) → Runs d (m_M_daub, 232, [some (.inr (.inr (some (12, 0)))), o1, some (.inl x2), some (.inl x3), some (.inl x4), some (.inl (n32 t)), o6], []) (gi', g) Q) :
    Runs d (m_M_daub, 192, [some (.inr (.inr (some (12, 0)))), o1, some (.inl x2), some (.inl x3), some (.inl x4), some (.inl (n32 t)), some (.inl (n32 0))], []) (gi, g) Q := by
  have h64 := wt64 hW hT
  have key := loop_up (n := W * T) (P := fun i => ∀ gi1 : GI, (∀ s a j, s ≠ 74 → gi1 s a j = gi s a j) → (∀ c, c < i → gi1 74 0 c = n32 (b c)) → Runs d (m_M_daub, 192, [some (.inr (.inr (some (12, 0)))), o1, some (.inl x2), some (.inl x3), some (.inl x4), some (.inl (n32 t)), some (.inl (n32 i))], []) (gi1, g) Q) ?_ ?_
  · exact key 0 (Nat.zero_le _) gi (fun _ _ _ _ => rfl) (fun c hc => absurd hc (Nat.not_lt_zero c))
  · intro i hi ih gi1 f1 f2
    have e25 : gi1 12 0 25 = n32 W := (f1 12 0 25 (by decide)).trans h25
    have e26 : gi1 12 0 26 = n32 T := (f1 12 0 26 (by decide)).trans h26
    have e86 : gi1 86 0 (64 * t + i) = n32 (b i) := (f1 86 0 _ (by decide)).trans (h86 i hi)
    rw [b_M_daub_192]
    simp (disch := omega) only [b_M_daub_206, e25, e26, hi, e86, G_0_0 hG, G_0_1 hG, G_0_2 hG, G_0_3 hG, G_0_7 hG, G_0_10 hG, G_0_12 hG, G_0_13 hG, G_0_14 hG, G_0_15 hG, G_0_16 hG, G_0_17 hG, G_1_0 hG, G_1_2 hG, G_1_5 hG, G_2_4 hG, G_2_5 hG, G_3_5 hG, G_3_6 hG, G_3_7 hG, G_3_8 hG, G_3_9 hG, G_5_0 hG, G_5_1 hG, G_6_0 hG, G_6_1 hG, G_6_2 hG, G_6_9 hG, G_6_10 hG, G_6_11 hG, G_6_12 hG, G_6_13 hG, G_7_0 hG, G_7_5 hG, G_8_8 hG, G_8_9 hG, G_9_8 hG, G_9_9 hG, G_10_7 hG, G_10_8 hG, G_10_9 hG, G_10_10 hG, G_10_11 hG, G_11_0 hG, G_12_2 hG, G_12_3 hG, G_12_4 hG, G_12_5 hG, G_12_7 hG, G_12_8 hG, G_12_9 hG, G_12_12 hG, G_12_13 hG, G_12_14 hG, G_12_22 hG, G_12_23 hG, G_12_29 hG, G_12_30 hG, G_12_31 hG, G_12_37 hG, G_12_38 hG, G_12_39 hG, G_12_40 hG, G_12_41 hG, G_12_43 hG, G_12_46 hG, G_12_47 hG, G_12_48 hG, G_25 hG, G_26 hG, G_47 hG, G_58 hG, n32_add, n32_mul, n32_lt, n32_le, n32_eq, n32_clamp, n32_inT, n32_div, n32_rem, n32_m1, n32_m1', n32_m1lt, n32_ltm1, n32_10, n32_01, Nat.not_lt_zero, Nat.lt_irrefl, Nat.mul_zero, Nat.zero_mul, Nat.zero_add, Nat.add_zero, Nat.reduceEqDiff, Nat.one_ne_zero, Nat.zero_ne_one, ax_psh_none, ax_psh_some, true_and, and_true, and_false, false_and, not_true_eq_false, not_false_eq_true, true_imp_iff, false_imp_iff, imp_self, or_true, true_or, or_false, false_or, and_self, ite_true, ite_false, if_true, if_false]
    refine ih _ ?_ ?_
    · intro s a j q
      rw [wI_ne q]
      exact f1 s a j q
    · intro c hc
      rw [wI_at]
      by_cases z : c = i
      · rw [if_pos ⟨rfl, rfl, z⟩, z]
      · rw [if_neg (by omega)]
        exact f2 c (by omega)
  · intro gi1 f1 f2
    have e25 : gi1 12 0 25 = n32 W := (f1 12 0 25 (by decide)).trans h25
    have e26 : gi1 12 0 26 = n32 T := (f1 12 0 26 (by decide)).trans h26
    rw [b_M_daub_192]
    simp (disch := omega) only [e25, e26, G_0_0 hG, G_0_1 hG, G_0_2 hG, G_0_3 hG, G_0_7 hG, G_0_10 hG, G_0_12 hG, G_0_13 hG, G_0_14 hG, G_0_15 hG, G_0_16 hG, G_0_17 hG, G_1_0 hG, G_1_2 hG, G_1_5 hG, G_2_4 hG, G_2_5 hG, G_3_5 hG, G_3_6 hG, G_3_7 hG, G_3_8 hG, G_3_9 hG, G_5_0 hG, G_5_1 hG, G_6_0 hG, G_6_1 hG, G_6_2 hG, G_6_9 hG, G_6_10 hG, G_6_11 hG, G_6_12 hG, G_6_13 hG, G_7_0 hG, G_7_5 hG, G_8_8 hG, G_8_9 hG, G_9_8 hG, G_9_9 hG, G_10_7 hG, G_10_8 hG, G_10_9 hG, G_10_10 hG, G_10_11 hG, G_11_0 hG, G_12_2 hG, G_12_3 hG, G_12_4 hG, G_12_5 hG, G_12_7 hG, G_12_8 hG, G_12_9 hG, G_12_12 hG, G_12_13 hG, G_12_14 hG, G_12_22 hG, G_12_23 hG, G_12_29 hG, G_12_30 hG, G_12_31 hG, G_12_37 hG, G_12_38 hG, G_12_39 hG, G_12_40 hG, G_12_41 hG, G_12_43 hG, G_12_46 hG, G_12_47 hG, G_12_48 hG, G_25 hG, G_26 hG, G_47 hG, G_58 hG, n32_add, n32_mul, n32_lt, n32_le, n32_eq, n32_clamp, n32_inT, n32_div, n32_rem, n32_m1, n32_m1', n32_m1lt, n32_ltm1, n32_10, n32_01, Nat.not_lt_zero, Nat.lt_irrefl, Nat.mul_zero, Nat.zero_mul, Nat.zero_add, Nat.add_zero, Nat.reduceEqDiff, Nat.one_ne_zero, Nat.zero_ne_one, ax_psh_none, ax_psh_some, true_and, and_true, and_false, false_and, not_true_eq_false, not_false_eq_true, true_imp_iff, false_imp_iff, imp_self, or_true, true_or, or_false, false_or, and_self, ite_true, ite_false, if_true, if_false]
    exact hq gi1 _ f1 f2
/-- what the reference's row of daubed things holds -/
def Db (gi : GI) (K : Nat → Int32) (nt : Nat) (bb : Nat → Nat → Nat) : Prop := ∀ u, u < nt → ∀ c, c < Wk K u * Tk K u → gi 86 0 (64 * u + c) = n32 (bb u c)
theorem md_lay {d nt m : Nat} {gi : GI} {g : AG} {Ls : Nat → List PC} {K : Nat → Int32} {Q : Option AV → AH → Prop} (hB : BK gi g Ls nt m K) (o1 o4 o5 o6 : Option AV) (x2 : Int32)
    (hq : ∀ gi' o3 o4, (∀ s a j, s ≠ 86 → gi' s a j = gi s a j) → Db gi' K nt (bk K) → Runs (d + 3) (m_M_daub, 92, [some (.inr (.inr (some (12, 0)))), o1, some (.inl x2), o3, o4, o5, o6], []) (gi', g) Q) :
    Runs (d + 3) (m_M_daub, 38, [some (.inr (.inr (some (12, 0)))), o1, some (.inl x2), some (.inl (n32 0)), o4, o5, o6], []) (gi, g) Q := by
  have hG := hB.2.1
  have n6 := hB.2.2.1.1
  have key := loop_up (n := nt) (P := fun t => ∀ (gi1 : GI) o4, (∀ s a j, s ≠ 86 → gi1 s a j = gi s a j) → Db gi1 K t (bk K) → Runs (d + 3) (m_M_daub, 38, [some (.inr (.inr (some (12, 0)))), o1, some (.inl x2), some (.inl (n32 t)), o4, o5, o6], []) (gi1, g) Q) ?_ ?_
  · exact key 0 (Nat.zero_le _) gi o4 (fun _ _ _ _ => rfl) (fun u hu => absurd hu (Nat.not_lt_zero u))
  · intro t ht ih gi1 o4 f1 f2
    have hB1 : BK gi1 g Ls nt m K := BK_f hB (fun s a j q => f1 s a j (by omega))
    have k796 := e796_q (gi' := gi) (g' := g) hB1
    have hv := thing_b hB1 ht
    have hW := hv.1.2.2.2.1
    have hT := hv.1.2.2.2.2.1
    have h64 := wt64 hW.2 hT.2
    rw [b_M_daub_38]
    simp (disch := omega) only [b_M_daub_43, b_M_daub_46, c_M_things _ _ _ _ hG, k796, ht, n32_add, n32_mul, n32_lt, n32_le, n32_eq, n32_clamp, n32_inT, n32_div, n32_rem, n32_m1, n32_m1', n32_m1lt, n32_ltm1, n32_10, n32_01, Nat.not_lt_zero, Nat.lt_irrefl, Nat.mul_zero, Nat.zero_mul, Nat.zero_add, Nat.add_zero, Nat.reduceEqDiff, Nat.one_ne_zero, Nat.zero_ne_one, ax_psh_none, ax_psh_some, true_and, and_true, and_false, false_and, not_true_eq_false, not_false_eq_true, true_imp_iff, false_imp_iff, imp_self, or_true, true_or, or_false, false_or, and_self, ite_true, ite_false, if_true, if_false]
    have k2 := loop_up (n := Wk K t * Tk K t) (P := fun i => ∀ (gi2 : GI), (∀ s a j, s ≠ 86 → gi2 s a j = gi s a j) → Db gi2 K t (bk K) → (∀ c, c < i → gi2 86 0 (64 * t + c) = n32 (bk K t c)) → Runs (d + 3) (m_M_daub, 49, [some (.inr (.inr (some (12, 0)))), o1, some (.inl x2), some (.inl (n32 t)), some (.inl (n32 i)), o5, o6], []) (gi2, g) Q) ?_ ?_
    · exact k2 0 (Nat.zero_le _) gi1 f1 f2 (fun c hc => absurd hc (Nat.not_lt_zero c))
    · intro i hi ih2 gi2 q1 q2 q3
      have hB2 : BK gi2 g Ls nt m K := BK_f hB (fun s a j q => q1 s a j (by omega))
      have hv2 := thing_b hB2 ht
      have e64 := (hv2.2.1.2.2.2.2.2 i (by omega)).1
      rw [b_M_daub_49]
      simp (disch := omega) only [b_M_daub_56, b_M_daub_59, b_M_daub_79, c_M_areaOf _ _ _ _ hG (by omega : t < 6) hv2.2.1.1 hv2.2.1.2.1, c_M_factOf _ _ _ _ hG, e64, hi, G_0_0 hG, G_0_1 hG, G_0_2 hG, G_0_3 hG, G_0_7 hG, G_0_10 hG, G_0_12 hG, G_0_13 hG, G_0_14 hG, G_0_15 hG, G_0_16 hG, G_0_17 hG, G_1_0 hG, G_1_2 hG, G_1_5 hG, G_2_4 hG, G_2_5 hG, G_3_5 hG, G_3_6 hG, G_3_7 hG, G_3_8 hG, G_3_9 hG, G_5_0 hG, G_5_1 hG, G_6_0 hG, G_6_1 hG, G_6_2 hG, G_6_9 hG, G_6_10 hG, G_6_11 hG, G_6_12 hG, G_6_13 hG, G_7_0 hG, G_7_5 hG, G_8_8 hG, G_8_9 hG, G_9_8 hG, G_9_9 hG, G_10_7 hG, G_10_8 hG, G_10_9 hG, G_10_10 hG, G_10_11 hG, G_11_0 hG, G_12_2 hG, G_12_3 hG, G_12_4 hG, G_12_5 hG, G_12_7 hG, G_12_8 hG, G_12_9 hG, G_12_12 hG, G_12_13 hG, G_12_14 hG, G_12_22 hG, G_12_23 hG, G_12_29 hG, G_12_30 hG, G_12_31 hG, G_12_37 hG, G_12_38 hG, G_12_39 hG, G_12_40 hG, G_12_41 hG, G_12_43 hG, G_12_46 hG, G_12_47 hG, G_12_48 hG, G_25 hG, G_26 hG, G_47 hG, G_58 hG, n32_add, n32_mul, n32_lt, n32_le, n32_eq, n32_clamp, n32_inT, n32_div, n32_rem, n32_m1, n32_m1', n32_m1lt, n32_ltm1, n32_10, n32_01, Nat.not_lt_zero, Nat.lt_irrefl, Nat.mul_zero, Nat.zero_mul, Nat.zero_add, Nat.add_zero, Nat.reduceEqDiff, Nat.one_ne_zero, Nat.zero_ne_one, ax_psh_none, ax_psh_some, true_and, and_true, and_false, false_and, not_true_eq_false, not_false_eq_true, true_imp_iff, false_imp_iff, imp_self, or_true, true_or, or_false, false_or, and_self, ite_true, ite_false, if_true, if_false]
      refine ih2 _ ?_ ?_ ?_
      · intro s a j q
        rw [wI_ne q]
        exact q1 s a j q
      · intro u hu c hc
        have hvu := thing_b hB2 (show u < nt by omega)
        have h64u := wt64 hvu.1.2.2.2.1.2 hvu.1.2.2.2.2.1.2
        rw [wI_at, if_neg (by omega)]
        exact q2 u hu c hc
      · intro c hc
        rw [wI_at]
        by_cases z : c = i
        · rw [if_pos ⟨rfl, rfl, by omega⟩, z]
        · rw [if_neg (by omega)]
          exact q3 c (by omega)
    · intro gi2 q1 q2 q3
      have hB2 : BK gi2 g Ls nt m K := BK_f hB (fun s a j q => q1 s a j (by omega))
      have hv2 := thing_b hB2 ht
      rw [b_M_daub_49]
      simp (disch := omega) only [b_M_daub_56, b_M_daub_86, c_M_areaOf _ _ _ _ hG (by omega : t < 6) hv2.2.1.1 hv2.2.1.2.1, G_0_0 hG, G_0_1 hG, G_0_2 hG, G_0_3 hG, G_0_7 hG, G_0_10 hG, G_0_12 hG, G_0_13 hG, G_0_14 hG, G_0_15 hG, G_0_16 hG, G_0_17 hG, G_1_0 hG, G_1_2 hG, G_1_5 hG, G_2_4 hG, G_2_5 hG, G_3_5 hG, G_3_6 hG, G_3_7 hG, G_3_8 hG, G_3_9 hG, G_5_0 hG, G_5_1 hG, G_6_0 hG, G_6_1 hG, G_6_2 hG, G_6_9 hG, G_6_10 hG, G_6_11 hG, G_6_12 hG, G_6_13 hG, G_7_0 hG, G_7_5 hG, G_8_8 hG, G_8_9 hG, G_9_8 hG, G_9_9 hG, G_10_7 hG, G_10_8 hG, G_10_9 hG, G_10_10 hG, G_10_11 hG, G_11_0 hG, G_12_2 hG, G_12_3 hG, G_12_4 hG, G_12_5 hG, G_12_7 hG, G_12_8 hG, G_12_9 hG, G_12_12 hG, G_12_13 hG, G_12_14 hG, G_12_22 hG, G_12_23 hG, G_12_29 hG, G_12_30 hG, G_12_31 hG, G_12_37 hG, G_12_38 hG, G_12_39 hG, G_12_40 hG, G_12_41 hG, G_12_43 hG, G_12_46 hG, G_12_47 hG, G_12_48 hG, G_25 hG, G_26 hG, G_47 hG, G_58 hG, n32_add, n32_mul, n32_lt, n32_le, n32_eq, n32_clamp, n32_inT, n32_div, n32_rem, n32_m1, n32_m1', n32_m1lt, n32_ltm1, n32_10, n32_01, Nat.not_lt_zero, Nat.lt_irrefl, Nat.mul_zero, Nat.zero_mul, Nat.zero_add, Nat.add_zero, Nat.reduceEqDiff, Nat.one_ne_zero, Nat.zero_ne_one, ax_psh_none, ax_psh_some, true_and, and_true, and_false, false_and, not_true_eq_false, not_false_eq_true, true_imp_iff, false_imp_iff, imp_self, or_true, true_or, or_false, false_or, and_self, ite_true, ite_false, if_true, if_false]
      refine ih gi2 _ q1 (fun u hu c hc => ?_)
      by_cases z : u = t
      · rw [z] at hc ⊢
        exact q3 c hc
      · exact q2 u (by omega) c hc
  · intro gi1 o4 f1 f2
    have hB1 : BK gi1 g Ls nt m K := BK_f hB (fun s a j q => f1 s a j (by omega))
    have k796 := e796_q (gi' := gi) (g' := g) hB1
    rw [b_M_daub_38]
    simp (disch := omega) only [b_M_daub_43, c_M_things _ _ _ _ hG, k796, n32_add, n32_mul, n32_lt, n32_le, n32_eq, n32_clamp, n32_inT, n32_div, n32_rem, n32_m1, n32_m1', n32_m1lt, n32_ltm1, n32_10, n32_01, Nat.not_lt_zero, Nat.lt_irrefl, Nat.mul_zero, Nat.zero_mul, Nat.zero_add, Nat.add_zero, Nat.reduceEqDiff, Nat.one_ne_zero, Nat.zero_ne_one, ax_psh_none, ax_psh_some, true_and, and_true, and_false, false_and, not_true_eq_false, not_false_eq_true, true_imp_iff, false_imp_iff, imp_self, or_true, true_or, or_false, false_or, and_self, ite_true, ite_false, if_true, if_false]
    exact hq gi1 _ o4 f1 f2
/-- a day's draws -/
theorem md_draw {d nt m : Nat} {gi : GI} {g : AG} {Ls : Nat → List PC} {K : Nat → Int32} {Q : Option AV → AH → Prop} {x : DS} (hB : BK gi g Ls nt m K) (hx : daOK K nt x) (h50 : gi 12 0 50 = n32 x.1) (h86 : Db gi K nt x.2) (o1 o6 : Option AV) (x2 x3 x4 : Int32)
    (hq : ∀ gi' o5 o6, (∀ s a j, s ≠ 86 → ¬ (s = 12 ∧ a = 0 ∧ j = 50) → gi' s a j = gi s a j) → gi' 12 0 50 = n32 (daT K x nt).1 → Db gi' K nt (daT K x nt).2 → Runs (d + 3) (m_M_daub, 152, [some (.inr (.inr (some (12, 0)))), o1, some (.inl x2), some (.inl x3), some (.inl x4), o5, o6], []) (gi', g) Q) :
    Runs (d + 3) (m_M_daub, 106, [some (.inr (.inr (some (12, 0)))), o1, some (.inl x2), some (.inl x3), some (.inl x4), some (.inl (n32 0)), o6], []) (gi, g) Q := by
  have hG := hB.2.1
  have n6 := hB.2.2.1.1
  have key := loop_up (n := nt) (P := fun t => ∀ (gi1 : GI) o6, (∀ s a j, s ≠ 86 → ¬ (s = 12 ∧ a = 0 ∧ j = 50) → gi1 s a j = gi s a j) → gi1 12 0 50 = n32 (daT K x t).1 → Db gi1 K nt (daT K x t).2 → Runs (d + 3) (m_M_daub, 106, [some (.inr (.inr (some (12, 0)))), o1, some (.inl x2), some (.inl x3), some (.inl x4), some (.inl (n32 t)), o6], []) (gi1, g) Q) ?_ ?_
  · exact key 0 (Nat.zero_le _) gi o6 (fun _ _ _ _ _ => rfl) h50 h86
  · intro t ht ih gi1 o6 f1 f50 f86
    have hB1 : BK gi1 g Ls nt m K := BK_f hB (fun s a j q => f1 s a j (by omega) (by omega))
    have k796 := e796_q (gi' := gi) (g' := g) hB1
    have hv := thing_b hB1 ht
    have hW := hv.1.2.2.2.1
    have hT := hv.1.2.2.2.2.1
    have h64 := wt64 hW.2 hT.2
    have hpos : 1 ≤ Wk K t * Tk K t := Nat.mul_pos (by omega) (by omega)
    have hs := (daT_ok hx t).1
    have h1 := dr_lt (daT K x t).1
    have e50 : ax_wI gi1 12 0 50 (n32 (dr (daT K x t).1)) 12 0 50 = n32 (dr (daT K x t).1) := wI_self _ _ _ _ _
    have hcell : dr (daT K x t).1 % (Wk K t * Tk K t) < Wk K t * Tk K t := Nat.mod_lt _ (by omega)
    rw [b_M_daub_106]
    simp (disch := omega) only [b_M_daub_112, b_M_daub_115, b_M_daub_122, b_M_daub_125, b_M_daub_145, c_M_things _ _ _ _ hG, k796, ht, c_M_areaOf _ _ _ _ hG (by omega : t < 6) hv.2.1.1 hv.2.1.2.1, c_M_draws _ _ _ _ hs f50 ⟨hpos, h64⟩, c_M_draws _ _ _ _ h1 e50 (⟨by omega, by omega⟩ : 1 ≤ 10 ∧ 10 ≤ 64), G_0_0 hG, G_0_1 hG, G_0_2 hG, G_0_3 hG, G_0_7 hG, G_0_10 hG, G_0_12 hG, G_0_13 hG, G_0_14 hG, G_0_15 hG, G_0_16 hG, G_0_17 hG, G_1_0 hG, G_1_2 hG, G_1_5 hG, G_2_4 hG, G_2_5 hG, G_3_5 hG, G_3_6 hG, G_3_7 hG, G_3_8 hG, G_3_9 hG, G_5_0 hG, G_5_1 hG, G_6_0 hG, G_6_1 hG, G_6_2 hG, G_6_9 hG, G_6_10 hG, G_6_11 hG, G_6_12 hG, G_6_13 hG, G_7_0 hG, G_7_5 hG, G_8_8 hG, G_8_9 hG, G_9_8 hG, G_9_9 hG, G_10_7 hG, G_10_8 hG, G_10_9 hG, G_10_10 hG, G_10_11 hG, G_11_0 hG, G_12_2 hG, G_12_3 hG, G_12_4 hG, G_12_5 hG, G_12_7 hG, G_12_8 hG, G_12_9 hG, G_12_12 hG, G_12_13 hG, G_12_14 hG, G_12_22 hG, G_12_23 hG, G_12_29 hG, G_12_30 hG, G_12_31 hG, G_12_37 hG, G_12_38 hG, G_12_39 hG, G_12_40 hG, G_12_41 hG, G_12_43 hG, G_12_46 hG, G_12_47 hG, G_12_48 hG, G_25 hG, G_26 hG, G_47 hG, G_58 hG, n32_add, n32_mul, n32_lt, n32_le, n32_eq, n32_clamp, n32_inT, n32_div, n32_rem, n32_m1, n32_m1', n32_m1lt, n32_ltm1, n32_10, n32_01, Nat.not_lt_zero, Nat.lt_irrefl, Nat.mul_zero, Nat.zero_mul, Nat.zero_add, Nat.add_zero, Nat.reduceEqDiff, Nat.one_ne_zero, Nat.zero_ne_one, ax_psh_none, ax_psh_some, true_and, and_true, and_false, false_and, not_true_eq_false, not_false_eq_true, true_imp_iff, false_imp_iff, imp_self, or_true, true_or, or_false, false_or, and_self, ite_true, ite_false, if_true, if_false]
    refine ih _ _ ?_ ?_ ?_
    · intro s a j q1 q2
      rw [wI_ne q1, wI_at, if_neg q2, wI_at, if_neg q2]
      exact f1 s a j q1 q2
    · rw [wI_ne (by decide), wI_self]
      rfl
    · intro u hu c hc
      have hvu := thing_b hB1 hu
      have h64u := wt64 hvu.1.2.2.2.1.2 hvu.1.2.2.2.2.1.2
      show _ = n32 ((if u = t then updB ((daT K x t).2 t) (dr (daT K x t).1 % (Wk K t * Tk K t)) (dr (dr (daT K x t).1) % 10) else (daT K x t).2 u) c)
      rw [wI_at]
      by_cases z : u = t
      · subst z
        rw [if_pos rfl]
        unfold updB
        by_cases zc : c = dr (daT K x u).1 % (Wk K u * Tk K u)
        · rw [if_pos ⟨rfl, rfl, by omega⟩, if_pos zc]
        · rw [if_neg (by omega), if_neg zc, wI_ne (by decide), wI_ne (by decide)]
          exact f86 u hu c hc
      · rw [if_neg (by omega), if_neg z, wI_ne (by decide), wI_ne (by decide)]
        exact f86 u hu c hc
  · intro gi1 o6 f1 f50 f86
    have hB1 : BK gi1 g Ls nt m K := BK_f hB (fun s a j q => f1 s a j (by omega) (by omega))
    have k796 := e796_q (gi' := gi) (g' := g) hB1
    rw [b_M_daub_106]
    simp (disch := omega) only [b_M_daub_112, c_M_things _ _ _ _ hG, k796, n32_add, n32_mul, n32_lt, n32_le, n32_eq, n32_clamp, n32_inT, n32_div, n32_rem, n32_m1, n32_m1', n32_m1lt, n32_ltm1, n32_10, n32_01, Nat.not_lt_zero, Nat.lt_irrefl, Nat.mul_zero, Nat.zero_mul, Nat.zero_add, Nat.add_zero, Nat.reduceEqDiff, Nat.one_ne_zero, Nat.zero_ne_one, ax_psh_none, ax_psh_some, true_and, and_true, and_false, false_and, not_true_eq_false, not_false_eq_true, true_imp_iff, false_imp_iff, imp_self, or_true, true_or, or_false, false_or, and_self, ite_true, ite_false, if_true, if_false]
    exact hq gi1 _ o6 f1 f50 f86
/-- what all owe on a day -/
theorem md_owe {d nt m i : Nat} {gi : GI} {g : AG} {Ls : Nat → List PC} {K : Nat → Int32} {Q : Option AV → AH → Prop} {x : DS} (hB : BK gi g Ls nt m K) (hx : daOK K nt x) (hi : i < 40) (h86 : Db gi K nt x.2) (h85 : gi 85 0 i = n32 0) (o1 o6 : Option AV) (x2 x3 : Int32)
    (hq : ∀ gi' o5 o6, Fr mdMod gi gi' → gi' 12 0 50 = gi 12 0 50 → gi' 12 0 49 = gi 12 0 49 → (∀ j, gi' 86 0 j = gi 86 0 j) → (∀ j, j ≠ i → gi' 85 0 j = gi 85 0 j) → gi' 85 0 i = n32 (sumN (owK K (lawL Ls (K 798)) (dyk K + i) x.2) nt) → Runs (d + 49) (m_M_daub, 252, [some (.inr (.inr (some (12, 0)))), o1, some (.inl x2), some (.inl x3), some (.inl (n32 i)), o5, o6], []) (gi', g) Q) :
    Runs (d + 49) (m_M_daub, 163, [some (.inr (.inr (some (12, 0)))), o1, some (.inl x2), some (.inl x3), some (.inl (n32 i)), some (.inl (n32 0)), o6], []) (gi, g) Q := by
  have hG := hB.2.1
  have n6 := hB.2.2.1.1
  have key := loop_up (n := nt) (P := fun t => ∀ (gi1 : GI) o6, Fr mdMod gi gi1 → gi1 12 0 50 = gi 12 0 50 → gi1 12 0 49 = gi 12 0 49 → (∀ j, gi1 86 0 j = gi 86 0 j) → (∀ j, j ≠ i → gi1 85 0 j = gi 85 0 j) → gi1 85 0 i = n32 (sumN (owK K (lawL Ls (K 798)) (dyk K + i) x.2) t) → Runs (d + 49) (m_M_daub, 163, [some (.inr (.inr (some (12, 0)))), o1, some (.inl x2), some (.inl x3), some (.inl (n32 i)), some (.inl (n32 t)), o6], []) (gi1, g) Q) ?_ ?_
  · exact key 0 (Nat.zero_le _) gi o6 (Fr_refl _ _) rfl rfl (fun _ => rfl) (fun _ _ => rfl) h85
  · intro t ht ih gi1 o6 fr f50 f49 f86 f85 f85i
    have hB1 := BK_d hB (d_md fr) (GF_refl hG)
    have k796 := e796_q (gi' := gi) (g' := g) hB1
    have hv := thing_b hB1 ht
    have hL := lawM_b hB1 hB1.2.2.1.2.2.2.2.2.2.2.1
    obtain ⟨⟨a1, a2⟩, ⟨a3, a4⟩, -, -⟩ := terms_k hB1.2.2.1.2.2.2.2.2.2.2.2.1
    have hW := hv.1.2.2.2.1
    have hT := hv.1.2.2.2.2.1
    rw [b_M_daub_163]
    simp (disch := omega) only [b_M_daub_169, b_M_daub_172, c_M_things _ _ _ _ hG, k796, ht, n32_add, n32_mul, n32_lt, n32_le, n32_eq, n32_clamp, n32_inT, n32_div, n32_rem, n32_m1, n32_m1', n32_m1lt, n32_ltm1, n32_10, n32_01, Nat.not_lt_zero, Nat.lt_irrefl, Nat.mul_zero, Nat.zero_mul, Nat.zero_add, Nat.add_zero, Nat.reduceEqDiff, Nat.one_ne_zero, Nat.zero_ne_one, ax_psh_none, ax_psh_some, true_and, and_true, and_false, false_and, not_true_eq_false, not_false_eq_true, true_imp_iff, false_imp_iff, imp_self, or_true, true_or, or_false, false_or, and_self, ite_true, ite_false, if_true, if_false]
    refine c_M_lays (d := d + 47) hG (by omega) hv.2.1 ?_
    intro gi2 fr2 hl2 h27 h28
    have e28 : gi2 12 0 28 = n32 (dyk K) := by
      rw [h28, hB1.1]
      exact a3
    simp (disch := omega) only [b_M_daub_178, e28, n32_add, n32_mul, n32_lt, n32_le, n32_eq, n32_clamp, n32_inT, n32_div, n32_rem, n32_m1, n32_m1', n32_m1lt, n32_ltm1, n32_10, n32_01, Nat.not_lt_zero, Nat.lt_irrefl, Nat.mul_zero, Nat.zero_mul, Nat.zero_add, Nat.add_zero, Nat.reduceEqDiff, Nat.one_ne_zero, Nat.zero_ne_one, ax_psh_none, ax_psh_some, true_and, and_true, and_false, false_and, not_true_eq_false, not_false_eq_true, true_imp_iff, false_imp_iff, imp_self, or_true, true_or, or_false, false_or, and_self, ite_true, ite_false, if_true, if_false]
    refine md_copy hG ((wI_at _ _ _ _ _ _ _ _).trans ((if_neg (by omega)).trans hl2.2.1)) ((wI_at _ _ _ _ _ _ _ _).trans ((if_neg (by omega)).trans hl2.2.2.1)) hW.2 hT.2 (by omega) (b := x.2 t) (fun c hc => ?_) _ _ _ _ ?_
    · rw [wI_ne (by decide), fr2 86 0 _ rfl, f86]
      exact h86 t ht c hc
    · intro gi3 o6' q1 q2
      have r12 : ∀ j, j ≠ 28 → gi3 12 0 j = gi2 12 0 j := fun j hj => by rw [q1 12 0 j (by decide), wI_at, if_neg (by omega)]
      have r28 : gi3 12 0 28 = n32 (dyk K + i) := by rw [q1 12 0 28 (by decide), wI_self]
      have ro : ∀ s a j, s ≠ 74 → s ≠ 12 → gi3 s a j = gi2 s a j := fun s a j h1 h2 => by rw [q1 s a j h1, wI_ne h2]
      have hlaid : Laid gi3 t (Wk K t) (Tk K t) (x.2 t) := ⟨(r12 24 (by decide)).trans hl2.1, (r12 25 (by decide)).trans hl2.2.1, (r12 26 (by decide)).trans hl2.2.2.1, hW.2, hT.2, by omega, fun c hc => ⟨q2 c hc, hx.2 t ht c hc⟩⟩
      have e64 : ∀ j, gi3 64 0 j = gi1 64 0 j := fun j => (ro 64 0 j (by decide) (by decide)).trans (fr2 64 0 j rfl)
      have e85 : gi3 85 0 i = n32 (sumN (owK K (lawL Ls (K 798)) (dyk K + i) x.2) t) := (ro 85 0 i (by decide) (by decide)).trans ((fr2 85 0 i rfl).trans f85i)
      have frx : Fr mdMod gi1 gi3 := fun s a j q => by
        have qq := mdMod_f q
        by_cases z12 : s = 12
        · subst z12
          rw [q1 12 a j (by decide), wI_at, if_neg (by omega)]
          exact md_l fr2 12 a j q
        · rw [ro s a j (by omega) z12]
          exact md_l fr2 s a j q
      simp (disch := omega) only [b_M_daub_232, e85, G_0_0 hG, G_0_1 hG, G_0_2 hG, G_0_3 hG, G_0_7 hG, G_0_10 hG, G_0_12 hG, G_0_13 hG, G_0_14 hG, G_0_15 hG, G_0_16 hG, G_0_17 hG, G_1_0 hG, G_1_2 hG, G_1_5 hG, G_2_4 hG, G_2_5 hG, G_3_5 hG, G_3_6 hG, G_3_7 hG, G_3_8 hG, G_3_9 hG, G_5_0 hG, G_5_1 hG, G_6_0 hG, G_6_1 hG, G_6_2 hG, G_6_9 hG, G_6_10 hG, G_6_11 hG, G_6_12 hG, G_6_13 hG, G_7_0 hG, G_7_5 hG, G_8_8 hG, G_8_9 hG, G_9_8 hG, G_9_9 hG, G_10_7 hG, G_10_8 hG, G_10_9 hG, G_10_10 hG, G_10_11 hG, G_11_0 hG, G_12_2 hG, G_12_3 hG, G_12_4 hG, G_12_5 hG, G_12_7 hG, G_12_8 hG, G_12_9 hG, G_12_12 hG, G_12_13 hG, G_12_14 hG, G_12_22 hG, G_12_23 hG, G_12_29 hG, G_12_30 hG, G_12_31 hG, G_12_37 hG, G_12_38 hG, G_12_39 hG, G_12_40 hG, G_12_41 hG, G_12_43 hG, G_12_46 hG, G_12_47 hG, G_12_48 hG, G_25 hG, G_26 hG, G_47 hG, G_58 hG, n32_add, n32_mul, n32_lt, n32_le, n32_eq, n32_clamp, n32_inT, n32_div, n32_rem, n32_m1, n32_m1', n32_m1lt, n32_ltm1, n32_10, n32_01, Nat.not_lt_zero, Nat.lt_irrefl, Nat.mul_zero, Nat.zero_mul, Nat.zero_add, Nat.add_zero, Nat.reduceEqDiff, Nat.one_ne_zero, Nat.zero_ne_one, ax_psh_none, ax_psh_some, true_and, and_true, and_false, false_and, not_true_eq_false, not_false_eq_true, true_imp_iff, false_imp_iff, imp_self, or_true, true_or, or_false, false_or, and_self, ite_true, ite_false, if_true, if_false]
      refine c_M_owesNow (D := d + 49) (by omega) hG hlaid hW.1 hT.1 ((e64 _).trans hv.2.1.2.2.1) hv.2.2.1 r28 (by omega) (L := lawL Ls (K 798)) ?_ (sl := slk K) ?_ (by omega) ?_
      · refine ForceM_LawM (gi := gi1) ?_ ((r12 27 (by decide)).trans h27) e64
        unfold ForceM
        rw [hB1.1] at hL ⊢
        exact hL
      · rw [e64, hB1.1]
        exact a1
      · intro gi4 fr4
        simp (disch := omega) only [b_M_daub_244, G_0_0 hG, G_0_1 hG, G_0_2 hG, G_0_3 hG, G_0_7 hG, G_0_10 hG, G_0_12 hG, G_0_13 hG, G_0_14 hG, G_0_15 hG, G_0_16 hG, G_0_17 hG, G_1_0 hG, G_1_2 hG, G_1_5 hG, G_2_4 hG, G_2_5 hG, G_3_5 hG, G_3_6 hG, G_3_7 hG, G_3_8 hG, G_3_9 hG, G_5_0 hG, G_5_1 hG, G_6_0 hG, G_6_1 hG, G_6_2 hG, G_6_9 hG, G_6_10 hG, G_6_11 hG, G_6_12 hG, G_6_13 hG, G_7_0 hG, G_7_5 hG, G_8_8 hG, G_8_9 hG, G_9_8 hG, G_9_9 hG, G_10_7 hG, G_10_8 hG, G_10_9 hG, G_10_10 hG, G_10_11 hG, G_11_0 hG, G_12_2 hG, G_12_3 hG, G_12_4 hG, G_12_5 hG, G_12_7 hG, G_12_8 hG, G_12_9 hG, G_12_12 hG, G_12_13 hG, G_12_14 hG, G_12_22 hG, G_12_23 hG, G_12_29 hG, G_12_30 hG, G_12_31 hG, G_12_37 hG, G_12_38 hG, G_12_39 hG, G_12_40 hG, G_12_41 hG, G_12_43 hG, G_12_46 hG, G_12_47 hG, G_12_48 hG, G_25 hG, G_26 hG, G_47 hG, G_58 hG, n32_add, n32_mul, n32_lt, n32_le, n32_eq, n32_clamp, n32_inT, n32_div, n32_rem, n32_m1, n32_m1', n32_m1lt, n32_ltm1, n32_10, n32_01, Nat.not_lt_zero, Nat.lt_irrefl, Nat.mul_zero, Nat.zero_mul, Nat.zero_add, Nat.add_zero, Nat.reduceEqDiff, Nat.one_ne_zero, Nat.zero_ne_one, ax_psh_none, ax_psh_some, true_and, and_true, and_false, false_and, not_true_eq_false, not_false_eq_true, true_imp_iff, false_imp_iff, imp_self, or_true, true_or, or_false, false_or, and_self, ite_true, ite_false, if_true, if_false]
        have fr14 : Fr mdMod gi1 gi4 := Fr_trans frx (md_t fr4)
        have t12 : ∀ j, j = 49 ∨ j = 50 → gi4 12 0 j = gi1 12 0 j := fun j hj => by
          rcases hj with rfl | rfl
          · rw [fr4 12 0 49 rfl, r12 49 (by decide), fr2 12 0 49 rfl]
          · rw [fr4 12 0 50 rfl, r12 50 (by decide), fr2 12 0 50 rfl]
        refine ih _ _ (Fr_wI (Fr_trans fr fr14) rfl) ?_ ?_ ?_ ?_ ?_
        · rw [wI_ne (by decide), t12 50 (by omega), f50]
        · rw [wI_ne (by decide), t12 49 (by omega), f49]
        · intro j
          rw [wI_ne (by decide), fr4 86 0 j rfl, ro 86 0 j (by decide) (by decide), fr2 86 0 j rfl, f86]
        · intro j hj
          rw [wI_at, if_neg (by omega), fr4 85 0 j rfl, ro 85 0 j (by decide) (by decide), fr2 85 0 j rfl, f85 j hj]
        · rw [wI_self]
          rfl
  · intro gi1 o6 fr f50 f49 f86 f85 f85i
    have hB1 := BK_d hB (d_md fr) (GF_refl hG)
    have k796 := e796_q (gi' := gi) (g' := g) hB1
    rw [b_M_daub_163]
    simp (disch := omega) only [b_M_daub_169, c_M_things _ _ _ _ hG, k796, n32_add, n32_mul, n32_lt, n32_le, n32_eq, n32_clamp, n32_inT, n32_div, n32_rem, n32_m1, n32_m1', n32_m1lt, n32_ltm1, n32_10, n32_01, Nat.not_lt_zero, Nat.lt_irrefl, Nat.mul_zero, Nat.zero_mul, Nat.zero_add, Nat.add_zero, Nat.reduceEqDiff, Nat.one_ne_zero, Nat.zero_ne_one, ax_psh_none, ax_psh_some, true_and, and_true, and_false, false_and, not_true_eq_false, not_false_eq_true, true_imp_iff, false_imp_iff, imp_self, or_true, true_or, or_false, false_or, and_self, ite_true, ite_false, if_true, if_false]
    exact hq gi1 _ o6 fr f50 f49 f86 f85 f85i
theorem c_M_daub {d nt m n seed : Nat} {gi : GI} {g : AG} {Ls : Nat → List PC} {K : Nat → Int32} {Q : Option AV → AH → Prop} (hB : BK gi g Ls nt m K) (hseed : seed ≤ 1000000) (hn : 1 ≤ n ∧ n ≤ 40)
    (hq : ∀ gi', Fr mdMod gi gi' → gi' 12 0 49 = n32 n → (∀ u, u < n → gi' 85 0 u = n32 (owD K (lawL Ls (K 798)) nt (seed, bk K) u)) → Q (some (.inl (n32 (sumN (owD K (lawL Ls (K 798)) nt (seed, bk K)) n)))) (donM gi', g)) :
    ax_call (d + 50) m_M_daub [.inr (.inr (some (12, 0))), .inl (n32 seed), .inl (n32 n)] (gi, g) Q := by
  have hG := hB.2.1
  have n6 := hB.2.2.1.1
  rw [e_M_daub]
  simp (disch := omega) only [b_M_daub_0, b_M_daub_7, b_M_daub_10, b_M_daub_17, b_M_daub_26, c_M_lies, win_T, n32_add, n32_mul, n32_lt, n32_le, n32_eq, n32_clamp, n32_inT, n32_div, n32_rem, n32_m1, n32_m1', n32_m1lt, n32_ltm1, n32_10, n32_01, Nat.not_lt_zero, Nat.lt_irrefl, Nat.mul_zero, Nat.zero_mul, Nat.zero_add, Nat.add_zero, Nat.reduceEqDiff, Nat.one_ne_zero, Nat.zero_ne_one, ax_psh_none, ax_psh_some, true_and, and_true, and_false, false_and, not_true_eq_false, not_false_eq_true, true_imp_iff, false_imp_iff, imp_self, or_true, true_or, or_false, false_or, and_self, ite_true, ite_false, if_true, if_false]
  have frw : Fr mdMod gi (ax_wI (ax_wI gi 12 0 50 (n32 seed)) 12 0 49 (n32 n)) := Fr_wI (Fr_wI (Fr_refl _ _) rfl) rfl
  have w50 : ax_wI (ax_wI gi 12 0 50 (n32 seed)) 12 0 49 (n32 n) 12 0 50 = n32 seed := by rw [wI_at, if_neg (by omega), wI_self]
  have w49 : ax_wI (ax_wI gi 12 0 50 (n32 seed)) 12 0 49 (n32 n) 12 0 49 = n32 n := by rw [wI_self]
  generalize ax_wI (ax_wI gi 12 0 50 (n32 seed)) 12 0 49 (n32 n) = gi1 at *
  have hB1 := BK_d hB (d_md frw) (GF_refl hG)
  have hok : daOK K nt (seed, bk K) := ⟨by show seed < 1000003; omega, fun u hu c hc => by
    have hv := thing_b hB hu
    have h64 := wt64 hv.1.2.2.2.1.2 hv.1.2.2.2.2.1.2
    exact (hv.1.2.2.2.2.2 c (by omega)).2⟩
  refine md_lay (d := d + 46) hB1 _ _ _ _ _ ?_
  intro gi2 o3 o4 f2 db2
  have fr2 : Fr mdMod gi gi2 := fun s a j q => (f2 s a j (fun z => by rw [z] at q; exact absurd q (by simp [mdMod]))).trans (frw s a j q)
  rw [b_M_daub_92]
  have key := loop_up (n := n) (P := fun i => ∀ (gi3 : GI) o1 o5 o6, Fr mdMod gi gi3 → gi3 12 0 49 = n32 n → gi3 12 0 50 = n32 (daD K nt (seed, bk K) i).1 → Db gi3 K nt (daD K nt (seed, bk K) i).2 → (∀ u, u < i → gi3 85 0 u = n32 (owD K (lawL Ls (K 798)) nt (seed, bk K) u)) → Runs (d + 49) (m_M_daub, 97, [some (.inr (.inr (some (12, 0)))), o1, some (.inl (n32 n)), some (.inl (n32 (sumN (owD K (lawL Ls (K 798)) nt (seed, bk K)) i))), some (.inl (n32 i)), o5, o6], []) (gi3, g) Q) ?_ ?_
  · exact key 0 (Nat.zero_le _) gi2 _ _ _ fr2 ((f2 12 0 49 (by decide)).trans w49) ((f2 12 0 50 (by decide)).trans w50) db2 (fun u hu => absurd hu (Nat.not_lt_zero u))
  · intro i hi ih gi3 o1 o5 o6 fr f49 f50 f86 f85
    have hB3 := BK_d hB (d_md fr) (GF_refl hG)
    rw [b_M_daub_97]
    simp (disch := omega) only [b_M_daub_103, hi, n32_add, n32_mul, n32_lt, n32_le, n32_eq, n32_clamp, n32_inT, n32_div, n32_rem, n32_m1, n32_m1', n32_m1lt, n32_ltm1, n32_10, n32_01, Nat.not_lt_zero, Nat.lt_irrefl, Nat.mul_zero, Nat.zero_mul, Nat.zero_add, Nat.add_zero, Nat.reduceEqDiff, Nat.one_ne_zero, Nat.zero_ne_one, ax_psh_none, ax_psh_some, true_and, and_true, and_false, false_and, not_true_eq_false, not_false_eq_true, true_imp_iff, false_imp_iff, imp_self, or_true, true_or, or_false, false_or, and_self, ite_true, ite_false, if_true, if_false]
    refine md_draw (d := d + 46) hB3 (daD_ok hok i) f50 f86 _ _ _ _ _ ?_
    intro gi4 o5' o6' k1 k50 k86
    have fr4 : Fr mdMod gi gi4 := fun s a j q => (k1 s a j (fun z => by rw [z] at q; exact absurd q (by simp [mdMod])) (fun z => by rw [z.1, z.2.2] at q; exact absurd q (by simp [mdMod]))).trans (fr s a j q)
    simp (disch := omega) only [b_M_daub_152, G_0_0 hG, G_0_1 hG, G_0_2 hG, G_0_3 hG, G_0_7 hG, G_0_10 hG, G_0_12 hG, G_0_13 hG, G_0_14 hG, G_0_15 hG, G_0_16 hG, G_0_17 hG, G_1_0 hG, G_1_2 hG, G_1_5 hG, G_2_4 hG, G_2_5 hG, G_3_5 hG, G_3_6 hG, G_3_7 hG, G_3_8 hG, G_3_9 hG, G_5_0 hG, G_5_1 hG, G_6_0 hG, G_6_1 hG, G_6_2 hG, G_6_9 hG, G_6_10 hG, G_6_11 hG, G_6_12 hG, G_6_13 hG, G_7_0 hG, G_7_5 hG, G_8_8 hG, G_8_9 hG, G_9_8 hG, G_9_9 hG, G_10_7 hG, G_10_8 hG, G_10_9 hG, G_10_10 hG, G_10_11 hG, G_11_0 hG, G_12_2 hG, G_12_3 hG, G_12_4 hG, G_12_5 hG, G_12_7 hG, G_12_8 hG, G_12_9 hG, G_12_12 hG, G_12_13 hG, G_12_14 hG, G_12_22 hG, G_12_23 hG, G_12_29 hG, G_12_30 hG, G_12_31 hG, G_12_37 hG, G_12_38 hG, G_12_39 hG, G_12_40 hG, G_12_41 hG, G_12_43 hG, G_12_46 hG, G_12_47 hG, G_12_48 hG, G_25 hG, G_26 hG, G_47 hG, G_58 hG, n32_add, n32_mul, n32_lt, n32_le, n32_eq, n32_clamp, n32_inT, n32_div, n32_rem, n32_m1, n32_m1', n32_m1lt, n32_ltm1, n32_10, n32_01, Nat.not_lt_zero, Nat.lt_irrefl, Nat.mul_zero, Nat.zero_mul, Nat.zero_add, Nat.add_zero, Nat.reduceEqDiff, Nat.one_ne_zero, Nat.zero_ne_one, ax_psh_none, ax_psh_some, true_and, and_true, and_false, false_and, not_true_eq_false, not_false_eq_true, true_imp_iff, false_imp_iff, imp_self, or_true, true_or, or_false, false_or, and_self, ite_true, ite_false, if_true, if_false]
    have frw4 : Fr mdMod gi (ax_wI gi4 85 0 i (n32 0)) := Fr_wI fr4 rfl
    have hB4 := BK_d hB (d_md frw4) (GF_refl hG)
    refine md_owe (x := daD K nt (seed, bk K) (i + 1)) hB4 (daD_ok hok (i + 1)) (by omega) ?_ (wI_self _ _ _ _ _) _ _ _ _ ?_
    · intro u hu c hc
      rw [wI_ne (by decide)]
      exact k86 u hu c hc
    · intro gi5 o5'' o6'' p1 p50 p49 p86 p85 p85i
      have e85 : gi5 85 0 i = n32 (owD K (lawL Ls (K 798)) nt (seed, bk K) i) := p85i
      simp (disch := omega) only [b_M_daub_252, e85, G_0_0 hG, G_0_1 hG, G_0_2 hG, G_0_3 hG, G_0_7 hG, G_0_10 hG, G_0_12 hG, G_0_13 hG, G_0_14 hG, G_0_15 hG, G_0_16 hG, G_0_17 hG, G_1_0 hG, G_1_2 hG, G_1_5 hG, G_2_4 hG, G_2_5 hG, G_3_5 hG, G_3_6 hG, G_3_7 hG, G_3_8 hG, G_3_9 hG, G_5_0 hG, G_5_1 hG, G_6_0 hG, G_6_1 hG, G_6_2 hG, G_6_9 hG, G_6_10 hG, G_6_11 hG, G_6_12 hG, G_6_13 hG, G_7_0 hG, G_7_5 hG, G_8_8 hG, G_8_9 hG, G_9_8 hG, G_9_9 hG, G_10_7 hG, G_10_8 hG, G_10_9 hG, G_10_10 hG, G_10_11 hG, G_11_0 hG, G_12_2 hG, G_12_3 hG, G_12_4 hG, G_12_5 hG, G_12_7 hG, G_12_8 hG, G_12_9 hG, G_12_12 hG, G_12_13 hG, G_12_14 hG, G_12_22 hG, G_12_23 hG, G_12_29 hG, G_12_30 hG, G_12_31 hG, G_12_37 hG, G_12_38 hG, G_12_39 hG, G_12_40 hG, G_12_41 hG, G_12_43 hG, G_12_46 hG, G_12_47 hG, G_12_48 hG, G_25 hG, G_26 hG, G_47 hG, G_58 hG, n32_add, n32_mul, n32_lt, n32_le, n32_eq, n32_clamp, n32_inT, n32_div, n32_rem, n32_m1, n32_m1', n32_m1lt, n32_ltm1, n32_10, n32_01, Nat.not_lt_zero, Nat.lt_irrefl, Nat.mul_zero, Nat.zero_mul, Nat.zero_add, Nat.add_zero, Nat.reduceEqDiff, Nat.one_ne_zero, Nat.zero_ne_one, ax_psh_none, ax_psh_some, true_and, and_true, and_false, false_and, not_true_eq_false, not_false_eq_true, true_imp_iff, false_imp_iff, imp_self, or_true, true_or, or_false, false_or, and_self, ite_true, ite_false, if_true, if_false]
      refine ih gi5 _ _ _ (Fr_trans frw4 p1) ?_ ?_ ?_ ?_
      · rw [p49, wI_ne (by decide), k1 12 0 49 (by decide) (by omega), f49]
      · rw [p50, wI_ne (by decide), k50]
        rfl
      · intro u hu c hc
        rw [p86, wI_ne (by decide)]
        exact k86 u hu c hc
      · intro u hu
        by_cases z : u = i
        · rw [z]
          exact p85i
        · rw [p85 u z, wI_at, if_neg (by omega), k1 85 0 u (by decide) (by omega)]
          exact f85 u (by omega)
  · intro gi3 o1 o5 o6 fr f49 f50 f86 f85
    rw [b_M_daub_97]
    simp (disch := omega) only [b_M_daub_268, b_M_daub_273, c_M_good, n32_add, n32_mul, n32_lt, n32_le, n32_eq, n32_clamp, n32_inT, n32_div, n32_rem, n32_m1, n32_m1', n32_m1lt, n32_ltm1, n32_10, n32_01, Nat.not_lt_zero, Nat.lt_irrefl, Nat.mul_zero, Nat.zero_mul, Nat.zero_add, Nat.add_zero, Nat.reduceEqDiff, Nat.one_ne_zero, Nat.zero_ne_one, ax_psh_none, ax_psh_some, true_and, and_true, and_false, false_and, not_true_eq_false, not_false_eq_true, true_imp_iff, false_imp_iff, imp_self, or_true, true_or, or_false, false_or, and_self, ite_true, ite_false, if_true, if_false]
    exact hq gi3 fr f49 f85
set_option maxRecDepth 100000 in
theorem op_daub (x y : Int32) : Op m_S_daub m_M_daub [.inl x, .inl y] := by
  intro D n gi g Ls Q hD hn hC hQ
  obtain ⟨d, rfl⟩ : ∃ d2, D = d2 + 50 := ⟨D - 50, by omega⟩
  obtain ⟨nt, m, s, hB, hG, b1, n6, hTh, hPI, hs2, hs, k796⟩ := ask_of hC
  rcases win_cases2 x 0 1000000 (by omega) (by omega) with ⟨seed, -, hseed, rfl⟩ | hw
  · rcases win_cases2 y 1 40 (by omega) (by omega) with ⟨k, hk1, hk2, rfl⟩ | hw
    · refine c_S_daub (d := d + 43) hB hPI hseed ⟨hk1, hk2⟩ hs (by omega) ?_
      intro gi1 g1 f1 gf1 hpi1 hS1 h24
      have hG1 := gf1.2.1
      have hB1 := BK_d hB f1 gf1
      have c0 : ∀ s a j, ¬ (s = 0 ∧ a = 0 ∧ (j = 8 ∨ j = 9 ∨ j = 11)) → donC (ax_wI gi1 0 0 11 (n32 k)) s a j = gi1 s a j := fun s a j q => by
        rw [donC_at, if_neg (by omega), if_neg (by omega), wI_at, if_neg (by omega)]
      have c8 : donC (ax_wI gi1 0 0 11 (n32 k)) 0 0 8 = n32 0 := by rw [donC_at, if_neg (by omega), if_pos ⟨rfl, rfl, rfl⟩]
      have c9 : donC (ax_wI gi1 0 0 11 (n32 k)) 0 0 9 = gi 0 0 9 + n32 1 := by rw [donC_at, if_pos ⟨rfl, rfl, rfl⟩, wI_at, if_neg (by omega), f1 0 0 9 rfl]
      have c11 : donC (ax_wI gi1 0 0 11 (n32 k)) 0 0 11 = n32 k := by rw [donC_at, if_neg (by omega), if_neg (by omega), wI_self]
      generalize donC (ax_wI gi1 0 0 11 (n32 k)) = gi2 at *
      have hB2 : BK gi2 g1 Ls nt m (gi 64 0) := BK_f hB1 (fun s a j q => c0 s a j (by omega))
      refine c_M_daub hB2 hseed ⟨hk1, hk2⟩ ?_
      intro gi3 f3 h49 h85
      -- what is read at the end
      have o : ∀ s a j, ¬ (s = 3 ∨ s = 5 ∨ s = 7 ∨ s = 11 ∨ (39 ≤ s ∧ s ≤ 42) ∨ (53 ≤ s ∧ s ≤ 59) ∨ (69 ≤ s ∧ s ≤ 76) ∨ (78 ≤ s ∧ s ≤ 86) ∨ s = 24 ∨ (s = 12 ∧ ((15 ≤ j ∧ j ≤ 28) ∨ 42 ≤ j))) → ¬ (s = 0 ∧ a = 0 ∧ (j = 8 ∨ j = 9 ∨ j = 11)) → ¬ (s = 12 ∧ a = 0 ∧ (j = 0 ∨ j = 1)) → donM gi3 s a j = gi s a j := fun s a j q1 q2 q3 => by
        rw [donM_at, if_neg (by omega), if_neg (by omega), f3 s a j (mdMod_no (by omega)), c0 s a j q2, f1 s a j (dMod_no q1)]
      have o3 : ∀ s a j, s ≠ 0 → s ≠ 12 → s < 73 → donM gi3 s a j = gi1 s a j := fun s a j q1 q2 q3 => by
        rw [donM_ne q2, f3 s a j (mdMod_no (by omega)), c0 s a j (by omega)]
      have x8 : donM gi3 0 0 8 = n32 0 := by rw [donM_ne (by decide), f3 0 0 8 rfl, c8]
      have x9 : donM gi3 0 0 9 = gi 0 0 9 + n32 1 := by rw [donM_ne (by decide), f3 0 0 9 rfl, c9]
      have x11 : donM gi3 0 0 11 = n32 k := by rw [donM_ne (by decide), f3 0 0 11 rfl, c11]
      have y0 : donM gi3 12 0 0 = n32 0 := by rw [donM_at, if_neg (by omega), if_pos ⟨rfl, rfl, rfl⟩]
      have y1 : donM gi3 12 0 1 = gi 12 0 1 + n32 1 := by rw [donM_at, if_pos ⟨rfl, rfl, rfl⟩, f3 12 0 1 rfl, c0 12 0 1 (by omega), f1 12 0 1 rfl]
      have y49 : donM gi3 12 0 49 = n32 k := by rw [donM_at, if_neg (by omega), if_neg (by omega), h49]
      have x24 : ∀ u, u < k → donM gi3 24 0 u = donM gi3 85 0 u := fun u hu => by
        rw [o3 24 0 u (by decide) (by decide) (by omega), donM_ne (by decide), h24 u hu, h85 u hu]
      have x3 : ∀ t j, donM gi3 3 t j = gi1 3 t j := fun t j => o3 3 t j (by decide) (by decide) (by omega)
      have x59 : ∀ t j, donM gi3 59 t j = gi1 59 t j := fun t j => o3 59 t j (by decide) (by decide) (by omega)
      have x7 : donM gi3 7 0 4 = gi1 7 0 4 := o3 7 0 4 (by decide) (by decide) (by omega)
      have x39 : ∀ j, donM gi3 39 0 j = gi1 39 0 j := fun j => o3 39 0 j (by decide) (by decide) (by omega)
      generalize donM gi3 = gi4 at *
      have hnt : nt * k ≤ 6 * 40 := Nat.mul_le_mul n6 (by omega)
      obtain ⟨len, v, dd, B, hv, ⟨a1, a2, a3⟩, ⟨m1, m2, m3⟩, hM3, ⟨e1, e2⟩, ⟨d1, d2, d3, d4⟩, t1, t2⟩ := hC.2.2.2.2.2
      refine hQ _ gi4 g1 Ls (Core_mk hC (fun s a j q => o s a j (by omega) (by omega) (by omega)) gf1 (BooksR_of hC.2.1 (fun j _ => o 64 0 j (by omega) (by omega) (by omega)) (fun s a j q => o s a j (by omega) (by omega) (by omega)) gf1) (fun t ht => PaperInv_of (hpi1 t ht) (fun j => x3 t j) x59) ⟨s + nt * k, by omega, Stamps_of hS1 x7 x39⟩ ⟨len, v + 1, k, B, by omega, ⟨a1, (o 0 0 4 (by omega) (by omega) (by omega)).trans a2, (o 12 0 10 (by omega) (by omega) (by omega)).trans a3⟩, ⟨?_, ?_, ?_⟩, ⟨?_, ?_, ?_, ?_, ?_⟩, ⟨?_, ?_⟩, ⟨hk2, x11, y49, x24⟩, fun i hi => ?_, fun i hi => ?_⟩) ⟨fun s a j q => ?_, Or.inr x9⟩ (Or.inl x9)
      · rw [o 0 0 5 (by omega) (by omega) (by omega), o 12 0 11 (by omega) (by omega) (by omega), m1]
      · rw [o 0 0 6 (by omega) (by omega) (by omega), o 12 0 6 (by omega) (by omega) (by omega), m2]
      · rw [x8, y0]
      · rw [o 23 0 _ (by omega) (by omega) (by omega), o 63 0 _ (by omega) (by omega) (by omega), hM3.1]
      · rw [o 23 0 _ (by omega) (by omega) (by omega), o 63 0 _ (by omega) (by omega) (by omega), hM3.2.1]
      · rw [o 23 0 _ (by omega) (by omega) (by omega), o 63 0 _ (by omega) (by omega) (by omega), hM3.2.2.1]
      · rw [o 23 0 _ (by omega) (by omega) (by omega), o 63 0 _ (by omega) (by omega) (by omega), hM3.2.2.2.1]
      · rw [o 23 0 _ (by omega) (by omega) (by omega), o 63 0 _ (by omega) (by omega) (by omega), hM3.2.2.2.2]
      · rw [x9, e1, n32_add]
      · rw [y1, e2, n32_add]
      · rw [o 22 0 i (by omega) (by omega) (by omega)]
        exact t1 i hi
      · rw [o 68 0 i (by omega) (by omega) (by omega)]
        exact t2 i hi
      · have q' := srch_out q
        exact o s a j (by omega) (by omega) (by omega)
    · have e64 : True := trivial
      simp (disch := omega) only [e_S_daub, b_S_daub_0, b_S_daub_8, b_S_daub_11, b_S_daub_18, b_S_daub_21, b_S_daub_26, e_M_daub, b_M_daub_0, b_M_daub_7, b_M_daub_10, b_M_daub_17, b_M_daub_20, b_M_daub_25, c_S_within, c_M_lies, win_T, hw, c_S_refuse0 _ _ _ _ hG, c_M_refuses0 _ _ _ _ hG, n32_add, n32_mul, n32_lt, n32_le, n32_eq, n32_clamp, n32_inT, n32_div, n32_rem, n32_m1, n32_m1', n32_m1lt, n32_ltm1, n32_10, n32_01, Nat.not_lt_zero, Nat.lt_irrefl, Nat.mul_zero, Nat.zero_mul, Nat.zero_add, Nat.add_zero, Nat.reduceEqDiff, Nat.one_ne_zero, Nat.zero_ne_one, ax_psh_none, ax_psh_some, true_and, and_true, and_false, false_and, not_true_eq_false, not_false_eq_true, true_imp_iff, false_imp_iff, imp_self, or_true, true_or, or_false, false_or, and_self, ite_true, ite_false, if_true, if_false]
      exact ref_end0 hC hQ (by omega)
  · simp (disch := omega) only [e_S_daub, b_S_daub_0, b_S_daub_8, b_S_daub_21, b_S_daub_26, e_M_daub, b_M_daub_0, b_M_daub_7, b_M_daub_20, b_M_daub_25, c_S_within, c_M_lies, win_T, hw, c_S_refuse0 _ _ _ _ hG, c_M_refuses0 _ _ _ _ hG, n32_add, n32_mul, n32_lt, n32_le, n32_eq, n32_clamp, n32_inT, n32_div, n32_rem, n32_m1, n32_m1', n32_m1lt, n32_ltm1, n32_10, n32_01, Nat.not_lt_zero, Nat.lt_irrefl, Nat.mul_zero, Nat.zero_mul, Nat.zero_add, Nat.add_zero, Nat.reduceEqDiff, Nat.one_ne_zero, Nat.zero_ne_one, ax_psh_none, ax_psh_some, true_and, and_true, and_false, false_and, not_true_eq_false, not_false_eq_true, true_imp_iff, false_imp_iff, imp_self, or_true, true_or, or_false, false_or, and_self, ite_true, ite_false, if_true, if_false]
    exact ref_end0 hC hQ (by omega)
