/-! free, on both -/
def frK (K : Nat → Int32) (Ls : Nat → List PC) (t p : Nat) : Nat × FS := frAt (Wk K t * Tk K t) p (okF (lawL Ls (K 798)) (Wk K t) (Tk K t) (Ok K t) (dyk K) (slk K)) (bk K t) 3
def SF (gi : GI) (Ls : Nat → List PC) (v : Nat) : Prop := (gi 8 0 4 = -1 ∨ ∃ x, x ≤ v ∧ gi 8 0 4 = n32 x) ∧ (gi 8 0 4 = n32 v → ∃ t p, t < cl (gi 64 0 796) ∧ p < 10 ∧ gi 8 0 2 = n32 t ∧ gi 8 0 3 = n32 p ∧ FreeV gi (frK (gi 64 0) Ls t p))
def SM (gi : GI) (Ls : Nat → List PC) (v : Nat) : Prop := (gi 12 0 34 = -1 ∨ ∃ x, x ≤ v ∧ gi 12 0 34 = n32 x) ∧ (gi 12 0 34 = n32 v → ∃ t p, t < cl (gi 64 0 796) ∧ p < 10 ∧ gi 12 0 35 = n32 t ∧ gi 12 0 36 = n32 p ∧ FreeM gi (frK (gi 64 0) Ls t p))
theorem FreeV_of {gi gi' : GI} {x : Nat × FS} (h : FreeV gi x) (h8 : ∀ j, gi' 8 0 j = gi 8 0 j) (h44 : ∀ j, gi' 44 0 j = gi 44 0 j) : FreeV gi' x := ⟨(h8 6).trans h.1, (h8 7).trans h.2.1, fun q i hi => (h44 i).trans (h.2.2 q i hi)⟩
theorem FreeM_of {gi gi' : GI} {x : Nat × FS} (h : FreeM gi x) (h12 : ∀ j, 32 ≤ j → j ≤ 36 → gi' 12 0 j = gi 12 0 j) (h77 : ∀ j, gi' 77 0 j = gi 77 0 j) : FreeM gi' x := ⟨(h12 32 (by omega) (by omega)).trans h.1, (h12 33 (by omega) (by omega)).trans h.2.1, fun q i hi => (h77 i).trans (h.2.2 q i hi)⟩
theorem SF_of {gi gi' : GI} {Ls : Nat → List PC} {v : Nat} (h : SF gi Ls v) (h8 : ∀ j, gi' 8 0 j = gi 8 0 j) (h44 : ∀ j, gi' 44 0 j = gi 44 0 j) (h64 : ∀ j, gi' 64 0 j = gi 64 0 j) : SF gi' Ls v := by
  have e64 : gi' 64 0 = gi 64 0 := funext h64
  unfold SF at *
  rw [h8 4, h8 2, h8 3, e64]
  refine ⟨h.1, fun q => ?_⟩
  obtain ⟨t, p, a1, a2, a3, a4, a5⟩ := h.2 q
  exact ⟨t, p, a1, a2, a3, a4, FreeV_of a5 h8 h44⟩
theorem SM_of {gi gi' : GI} {Ls : Nat → List PC} {v : Nat} (h : SM gi Ls v) (h12 : ∀ j, 32 ≤ j → j ≤ 36 → gi' 12 0 j = gi 12 0 j) (h77 : ∀ j, gi' 77 0 j = gi 77 0 j) (h64 : ∀ j, gi' 64 0 j = gi 64 0 j) : SM gi' Ls v := by
  have e64 : gi' 64 0 = gi 64 0 := funext h64
  unfold SM at *
  rw [h12 34 (by omega) (by omega), h12 35 (by omega) (by omega), h12 36 (by omega) (by omega), e64]
  refine ⟨h.1, fun q => ?_⟩
  obtain ⟨t, p, a1, a2, a3, a4, a5⟩ := h.2 q
  exact ⟨t, p, a1, a2, a3, a4, FreeM_of a5 h12 h77⟩
def ansF (x : Nat × FS) (w : Nat) : Int32 := if w = 0 then frW x else if w = 4 then n32 x.2.1 else if x.2.1 = 0 ∨ x.1 < w then -1 else n32 (x.2.2.getD (w - 1) 0)
theorem frW_lt {x : Nat × FS} {w : Nat} (hw : w < 2147483648) (hx : x.1 < 2147483648) : (frW x < n32 w) = (x.2.1 = 0 ∨ x.1 < w) := by
  unfold frW
  by_cases z : x.2.1 = 0
  · rw [if_pos z, n32_m1lt hw]
    simp [z]
  · rw [if_neg z, n32_lt hx hw]
    simp [z]
theorem fa_c {d w : Nat} {x : Nat × FS} {gi : GI} {g : AG} {Q : Option AV → AH → Prop} (hG : GOK g) (h : FreeV gi x) (hx : x.1 ≤ 3) (hw : w ≤ 4) (o1 o2 o4 : Option AV) : Runs d (m_S_free, 83, [some (.inr (.inr (some (0, 0)))), o1, o2, some (.inl (n32 w)), o4], []) (gi, g) Q = Q (some (.inl (ansF x w))) (gi, g) := by
  unfold ansF
  rw [b_S_free_83]
  by_cases h0 : w = 0
  · subst h0
    rw [if_pos rfl, bq_t rfl, b_S_free_87, h.1]
    simp only [G_0_0 hG, G_0_1 hG, G_0_2 hG, G_0_3 hG, G_0_7 hG, G_0_10 hG, G_0_12 hG, G_0_13 hG, G_0_14 hG, G_0_15 hG, G_0_16 hG, G_0_17 hG, G_1_0 hG, G_1_2 hG, G_1_5 hG, G_2_4 hG, G_2_5 hG, G_3_5 hG, G_3_6 hG, G_3_7 hG, G_3_8 hG, G_3_9 hG, G_5_0 hG, G_5_1 hG, G_6_0 hG, G_6_1 hG, G_6_2 hG, G_6_9 hG, G_6_10 hG, G_6_11 hG, G_6_12 hG, G_6_13 hG, G_7_0 hG, G_7_5 hG, G_8_8 hG, G_8_9 hG, G_9_8 hG, G_9_9 hG, G_10_7 hG, G_10_8 hG, G_10_9 hG, G_10_10 hG, G_10_11 hG, G_11_0 hG, G_12_2 hG, G_12_3 hG, G_12_4 hG, G_12_5 hG, G_12_7 hG, G_12_8 hG, G_12_9 hG, G_12_12 hG, G_12_13 hG, G_12_14 hG, G_12_22 hG, G_12_23 hG, G_12_29 hG, G_12_30 hG, G_12_31 hG, G_12_37 hG, G_12_38 hG, G_12_39 hG, G_12_40 hG, G_12_41 hG, G_12_43 hG, G_12_46 hG, G_12_47 hG, G_12_48 hG, G_25 hG, G_26 hG, G_47 hG, G_58 hG, ax_psh_none, ax_psh_some, true_and, and_true, and_false, false_and, not_true_eq_false, not_false_eq_true, true_imp_iff, false_imp_iff, imp_self, or_true, true_or, or_false, false_or, and_self, ite_true, ite_false, if_true, if_false]
  · rw [if_neg h0, bq_f (by rw [n32_eq (by omega) (by omega)]; exact h0), b_S_free_95]
    by_cases h4 : w = 4
    · subst h4
      rw [if_pos rfl, bq_t rfl, b_S_free_100, h.2.1]
      simp only [G_0_0 hG, G_0_1 hG, G_0_2 hG, G_0_3 hG, G_0_7 hG, G_0_10 hG, G_0_12 hG, G_0_13 hG, G_0_14 hG, G_0_15 hG, G_0_16 hG, G_0_17 hG, G_1_0 hG, G_1_2 hG, G_1_5 hG, G_2_4 hG, G_2_5 hG, G_3_5 hG, G_3_6 hG, G_3_7 hG, G_3_8 hG, G_3_9 hG, G_5_0 hG, G_5_1 hG, G_6_0 hG, G_6_1 hG, G_6_2 hG, G_6_9 hG, G_6_10 hG, G_6_11 hG, G_6_12 hG, G_6_13 hG, G_7_0 hG, G_7_5 hG, G_8_8 hG, G_8_9 hG, G_9_8 hG, G_9_9 hG, G_10_7 hG, G_10_8 hG, G_10_9 hG, G_10_10 hG, G_10_11 hG, G_11_0 hG, G_12_2 hG, G_12_3 hG, G_12_4 hG, G_12_5 hG, G_12_7 hG, G_12_8 hG, G_12_9 hG, G_12_12 hG, G_12_13 hG, G_12_14 hG, G_12_22 hG, G_12_23 hG, G_12_29 hG, G_12_30 hG, G_12_31 hG, G_12_37 hG, G_12_38 hG, G_12_39 hG, G_12_40 hG, G_12_41 hG, G_12_43 hG, G_12_46 hG, G_12_47 hG, G_12_48 hG, G_25 hG, G_26 hG, G_47 hG, G_58 hG, ax_psh_none, ax_psh_some, true_and, and_true, and_false, false_and, not_true_eq_false, not_false_eq_true, true_imp_iff, false_imp_iff, imp_self, or_true, true_or, or_false, false_or, and_self, ite_true, ite_false, if_true, if_false]
    · rw [if_neg h4, bq_f (by rw [n32_eq (by omega) (by omega)]; exact h4), b_S_free_108, h.1]
      by_cases z : x.2.1 = 0 ∨ x.1 < w
      · rw [if_pos z, bq_t (by rw [frW_lt (by omega) (by omega)]; exact z), b_S_free_133, b_S_free_134]
        simp only [G_0_0 hG, G_0_1 hG, G_0_2 hG, G_0_3 hG, G_0_7 hG, G_0_10 hG, G_0_12 hG, G_0_13 hG, G_0_14 hG, G_0_15 hG, G_0_16 hG, G_0_17 hG, G_1_0 hG, G_1_2 hG, G_1_5 hG, G_2_4 hG, G_2_5 hG, G_3_5 hG, G_3_6 hG, G_3_7 hG, G_3_8 hG, G_3_9 hG, G_5_0 hG, G_5_1 hG, G_6_0 hG, G_6_1 hG, G_6_2 hG, G_6_9 hG, G_6_10 hG, G_6_11 hG, G_6_12 hG, G_6_13 hG, G_7_0 hG, G_7_5 hG, G_8_8 hG, G_8_9 hG, G_9_8 hG, G_9_9 hG, G_10_7 hG, G_10_8 hG, G_10_9 hG, G_10_10 hG, G_10_11 hG, G_11_0 hG, G_12_2 hG, G_12_3 hG, G_12_4 hG, G_12_5 hG, G_12_7 hG, G_12_8 hG, G_12_9 hG, G_12_12 hG, G_12_13 hG, G_12_14 hG, G_12_22 hG, G_12_23 hG, G_12_29 hG, G_12_30 hG, G_12_31 hG, G_12_37 hG, G_12_38 hG, G_12_39 hG, G_12_40 hG, G_12_41 hG, G_12_43 hG, G_12_46 hG, G_12_47 hG, G_12_48 hG, G_25 hG, G_26 hG, G_47 hG, G_58 hG, ax_psh_none, ax_psh_some, true_and, and_true, and_false, false_and, not_true_eq_false, not_false_eq_true, true_imp_iff, false_imp_iff, imp_self, or_true, true_or, or_false, false_or, and_self, ite_true, ite_false, if_true, if_false]
      · rw [if_neg z, bq_f (by rw [frW_lt (by omega) (by omega)]; exact z), b_S_free_119, b_S_free_134, n32_sub (by omega), n32_clamp (by omega), n32_inT (by omega) (by omega), h.2.2 (by omega) (w - 1) (by omega)]
        simp only [G_0_0 hG, G_0_1 hG, G_0_2 hG, G_0_3 hG, G_0_7 hG, G_0_10 hG, G_0_12 hG, G_0_13 hG, G_0_14 hG, G_0_15 hG, G_0_16 hG, G_0_17 hG, G_1_0 hG, G_1_2 hG, G_1_5 hG, G_2_4 hG, G_2_5 hG, G_3_5 hG, G_3_6 hG, G_3_7 hG, G_3_8 hG, G_3_9 hG, G_5_0 hG, G_5_1 hG, G_6_0 hG, G_6_1 hG, G_6_2 hG, G_6_9 hG, G_6_10 hG, G_6_11 hG, G_6_12 hG, G_6_13 hG, G_7_0 hG, G_7_5 hG, G_8_8 hG, G_8_9 hG, G_9_8 hG, G_9_9 hG, G_10_7 hG, G_10_8 hG, G_10_9 hG, G_10_10 hG, G_10_11 hG, G_11_0 hG, G_12_2 hG, G_12_3 hG, G_12_4 hG, G_12_5 hG, G_12_7 hG, G_12_8 hG, G_12_9 hG, G_12_12 hG, G_12_13 hG, G_12_14 hG, G_12_22 hG, G_12_23 hG, G_12_29 hG, G_12_30 hG, G_12_31 hG, G_12_37 hG, G_12_38 hG, G_12_39 hG, G_12_40 hG, G_12_41 hG, G_12_43 hG, G_12_46 hG, G_12_47 hG, G_12_48 hG, G_25 hG, G_26 hG, G_47 hG, G_58 hG, ax_psh_none, ax_psh_some, true_and, and_true, and_false, false_and, not_true_eq_false, not_false_eq_true, true_imp_iff, false_imp_iff, imp_self, or_true, true_or, or_false, false_or, and_self, ite_true, ite_false, if_true, if_false]
theorem fa_m {d w : Nat} {x : Nat × FS} {gi : GI} {g : AG} {Q : Option AV → AH → Prop} (hG : GOK g) (h : FreeM gi x) (hx : x.1 ≤ 3) (hw : w ≤ 4) (o1 o2 : Option AV) : Runs d (m_M_free, 35, [some (.inr (.inr (some (12, 0)))), o1, o2, some (.inl (n32 w))], []) (gi, g) Q = Q (some (.inl (ansF x w))) (gi, g) := by
  unfold ansF
  rw [b_M_free_35]
  by_cases h0 : w = 0
  · subst h0
    rw [if_pos rfl, bq_t rfl, b_M_free_39, b_M_free_78, h.1]
  · rw [if_neg h0, bq_f (by rw [n32_eq (by omega) (by omega)]; exact h0), b_M_free_46]
    by_cases h4 : w = 4
    · subst h4
      rw [if_pos rfl, bq_t rfl, b_M_free_51, b_M_free_78, h.2.1]
    · rw [if_neg h4, bq_f (by rw [n32_eq (by omega) (by omega)]; exact h4), b_M_free_58, h.1]
      by_cases z : x.2.1 = 0 ∨ x.1 < w
      · rw [if_pos z, bq_t (by rw [frW_lt (by omega) (by omega)]; exact z), b_M_free_77, b_M_free_78]
      · rw [if_neg z, bq_f (by rw [frW_lt (by omega) (by omega)]; exact z), b_M_free_66, b_M_free_78, n32_sub (by omega), n32_clamp (by omega), n32_inT (by omega) (by omega), h.2.2 (by omega) (w - 1) (by omega)]
        simp only [G_0_0 hG, G_0_1 hG, G_0_2 hG, G_0_3 hG, G_0_7 hG, G_0_10 hG, G_0_12 hG, G_0_13 hG, G_0_14 hG, G_0_15 hG, G_0_16 hG, G_0_17 hG, G_1_0 hG, G_1_2 hG, G_1_5 hG, G_2_4 hG, G_2_5 hG, G_3_5 hG, G_3_6 hG, G_3_7 hG, G_3_8 hG, G_3_9 hG, G_5_0 hG, G_5_1 hG, G_6_0 hG, G_6_1 hG, G_6_2 hG, G_6_9 hG, G_6_10 hG, G_6_11 hG, G_6_12 hG, G_6_13 hG, G_7_0 hG, G_7_5 hG, G_8_8 hG, G_8_9 hG, G_9_8 hG, G_9_9 hG, G_10_7 hG, G_10_8 hG, G_10_9 hG, G_10_10 hG, G_10_11 hG, G_11_0 hG, G_12_2 hG, G_12_3 hG, G_12_4 hG, G_12_5 hG, G_12_7 hG, G_12_8 hG, G_12_9 hG, G_12_12 hG, G_12_13 hG, G_12_14 hG, G_12_22 hG, G_12_23 hG, G_12_29 hG, G_12_30 hG, G_12_31 hG, G_12_37 hG, G_12_38 hG, G_12_39 hG, G_12_40 hG, G_12_41 hG, G_12_43 hG, G_12_46 hG, G_12_47 hG, G_12_48 hG, G_25 hG, G_26 hG, G_47 hG, G_58 hG, ax_psh_none, ax_psh_some, true_and, and_true, and_false, false_and, not_true_eq_false, not_false_eq_true, true_imp_iff, false_imp_iff, imp_self, or_true, true_or, or_false, false_or, and_self, ite_true, ite_false, if_true, if_false]
theorem c_isOf (d : Nat) (gi : GI) (g : AG) (Q : Option AV → AH → Prop) (x y z : Int32) : ax_call (d + 1) m_Freeing_isOf [.inr (.inr (some (8, 0))), .inl x, .inl y, .inl z] (gi, g) Q = Q (some (.inl (b32 (decide (gi 8 0 2 = x ∧ gi 8 0 3 = y ∧ gi 8 0 4 = z))))) (gi, g) := by
  by_cases h1 : gi 8 0 2 = x
  · by_cases h2 : gi 8 0 3 = y
    · by_cases h3 : gi 8 0 4 = z
      · simp only [e_Freeing_isOf, b_Freeing_isOf_0, b_Freeing_isOf_8, b_Freeing_isOf_16, b_Freeing_isOf_24, b_Freeing_isOf_28, b_Freeing_isOf_29, h1, h2, h3, decide_true, b32, n32_10, ax_psh_none, ax_psh_some, true_and, and_true, and_false, false_and, not_true_eq_false, not_false_eq_true, true_imp_iff, false_imp_iff, imp_self, or_true, true_or, or_false, false_or, and_self, ite_true, ite_false, if_true, if_false]
      · simp only [e_Freeing_isOf, b_Freeing_isOf_0, b_Freeing_isOf_8, b_Freeing_isOf_16, b_Freeing_isOf_24, b_Freeing_isOf_28, b_Freeing_isOf_29, h1, h2, h3, decide_false, b32, Bool.false_eq_true, ax_psh_none, ax_psh_some, true_and, and_true, and_false, false_and, not_true_eq_false, not_false_eq_true, true_imp_iff, false_imp_iff, imp_self, or_true, true_or, or_false, false_or, and_self, ite_true, ite_false, if_true, if_false]
    · simp only [e_Freeing_isOf, b_Freeing_isOf_0, b_Freeing_isOf_8, b_Freeing_isOf_16, b_Freeing_isOf_24, b_Freeing_isOf_28, b_Freeing_isOf_29, h1, h2, decide_false, b32, Bool.false_eq_true, ax_psh_none, ax_psh_some, true_and, and_true, and_false, false_and, not_true_eq_false, not_false_eq_true, true_imp_iff, false_imp_iff, imp_self, or_true, true_or, or_false, false_or, and_self, ite_true, ite_false, if_true, if_false]
  · simp only [e_Freeing_isOf, b_Freeing_isOf_0, b_Freeing_isOf_8, b_Freeing_isOf_16, b_Freeing_isOf_24, b_Freeing_isOf_28, b_Freeing_isOf_29, h1, decide_false, b32, Bool.false_eq_true, ax_psh_none, ax_psh_some, true_and, and_true, and_false, false_and, not_true_eq_false, not_false_eq_true, true_imp_iff, false_imp_iff, imp_self, or_true, true_or, or_false, false_or, and_self, ite_true, ite_false, if_true, if_false]
/-! the class's call -/
def cfMod (s _j : Nat) : Bool := s == 3 || s == 5 || s == 7 || (Nat.ble 39 s && Nat.ble s 42) || (Nat.ble 54 s && Nat.ble s 59) || s == 8 || s == 43 || s == 44
theorem cfMod_f {s j : Nat} (h : cfMod s j = false) : ¬ (s = 3 ∨ s = 5 ∨ s = 7 ∨ (39 ≤ s ∧ s ≤ 42) ∨ (54 ≤ s ∧ s ≤ 59) ∨ s = 8 ∨ s = 43 ∨ s = 44) := by
  unfold cfMod at h
  have hb : ∀ x y : Nat, Nat.ble x y = true ↔ x ≤ y := fun x y => by rw [Nat.ble_eq]
  rw [← Bool.not_eq_true] at h
  simp only [Bool.or_eq_true, Bool.and_eq_true, beq_iff_eq, hb] at h
  omega
theorem coMod_no {s j : Nat} (h : ¬ (s = 5 ∨ s = 7 ∨ (39 ≤ s ∧ s ≤ 42))) : coMod s j = false := by
  cases hz : coMod s j with
  | false => rfl
  | true =>
    exfalso
    unfold coMod at hz
    simp only [Bool.or_eq_true, beq_iff_eq] at hz
    omega
theorem skMod_no {s j : Nat} (h : ¬ (s = 3 ∨ (54 ≤ s ∧ s ≤ 57) ∨ s = 59 ∨ (39 ≤ s ∧ s ≤ 42) ∨ s = 5 ∨ s = 8 ∨ s = 43 ∨ s = 44)) : skMod s j = false := by
  cases hz : skMod s j with
  | false => rfl
  | true =>
    exfalso
    unfold skMod chMod at hz
    have hb : ∀ x y : Nat, Nat.ble x y = true ↔ x ≤ y := fun x y => by rw [Nat.ble_eq]
    simp only [Bool.or_eq_true, Bool.and_eq_true, beq_iff_eq, hb] at hz
    omega
theorem cf_P {gi gi' : GI} {t : Nat} (h : OnlyP t gi gi') : Fr cfMod gi gi' := fun s a j q => by
  have := cfMod_f q
  exact h s a j (by omega) (by omega) (by omega)
theorem cf_co {gi gi' : GI} (h : Fr coMod gi gi') : Fr cfMod gi gi' := Fr_mono h (fun s j q => coMod_no (by have := cfMod_f q; omega))
theorem cf_sk {gi gi' : GI} (h : Fr skMod gi gi') : Fr cfMod gi gi' := Fr_mono h (fun s j q => skMod_no (by have := cfMod_f q; omega))
theorem frK_le {K : Nat → Int32} {Ls : Nat → List PC} {t p : Nat} (h : Wk K t * Tk K t ≤ 64) : (frK K Ls t p).1 ≤ 3 := (frAt_le h (Nat.le_refl 3)).2
theorem c_S_free {d t nt m p w v s : Nat} {gi : GI} {g : AG} {Ls : Nat → List PC} {Q : Option AV → AH → Prop} (hB : BK gi g Ls nt m (gi 64 0)) (hPI : ∀ u, u < 6 → PaperInv gi u) (hs : Stamps gi s) (hs1 : s + 1 < 100000000) (ht : t < nt) (hp : p ≤ 9) (hw : w ≤ 4) (h9 : gi 0 0 9 = n32 v) (hv : v ≤ 1000) (hF : SF gi Ls v)
    (hq : ∀ gi' g' s', Fr cfMod gi gi' → GF g g' → (∀ u, u < 6 → PaperInv gi' u) → s' ≤ s + 1 → Stamps gi' s' → SF gi' Ls v → Q (some (.inl (ansF (frK (gi 64 0) Ls t p) w))) (gi', g')) :
    ax_call (d + 11) m_S_free [.inr (.inr (some (0, 0))), .inl (n32 t), .inl (n32 p), .inl (n32 w)] (gi, g) Q := by
  have hG := hB.2.1
  have n6 := hB.2.2.1.1
  have b1 := hB.2.2.1.2.2.2.2.1
  have hTh := hB.2.2.2.1
  have hv' := thing_b hB ht
  have h64 := wt64 hv'.1.2.2.2.1.2 hv'.1.2.2.2.2.1.2
  have hle := frK_le (K := gi 64 0) (Ls := Ls) (t := t) (p := p) h64
  have k796 : gi 64 0 796 = n32 nt := hB.2.2.1.2.2.1
  rw [e_S_free]
  simp (disch := omega) only [b_S_free_0, b_S_free_7, b_S_free_10, b_S_free_16, b_S_free_21, c_S_within, win_T, c_isOf, h9, G_0_0 hG, G_0_1 hG, G_0_2 hG, G_0_3 hG, G_0_7 hG, G_0_10 hG, G_0_12 hG, G_0_13 hG, G_0_14 hG, G_0_15 hG, G_0_16 hG, G_0_17 hG, G_1_0 hG, G_1_2 hG, G_1_5 hG, G_2_4 hG, G_2_5 hG, G_3_5 hG, G_3_6 hG, G_3_7 hG, G_3_8 hG, G_3_9 hG, G_5_0 hG, G_5_1 hG, G_6_0 hG, G_6_1 hG, G_6_2 hG, G_6_9 hG, G_6_10 hG, G_6_11 hG, G_6_12 hG, G_6_13 hG, G_7_0 hG, G_7_5 hG, G_8_8 hG, G_8_9 hG, G_9_8 hG, G_9_9 hG, G_10_7 hG, G_10_8 hG, G_10_9 hG, G_10_10 hG, G_10_11 hG, G_11_0 hG, G_12_2 hG, G_12_3 hG, G_12_4 hG, G_12_5 hG, G_12_7 hG, G_12_8 hG, G_12_9 hG, G_12_12 hG, G_12_13 hG, G_12_14 hG, G_12_22 hG, G_12_23 hG, G_12_29 hG, G_12_30 hG, G_12_31 hG, G_12_37 hG, G_12_38 hG, G_12_39 hG, G_12_40 hG, G_12_41 hG, G_12_43 hG, G_12_46 hG, G_12_47 hG, G_12_48 hG, G_25 hG, G_26 hG, G_47 hG, G_58 hG, n32_add, n32_mul, n32_lt, n32_le, n32_eq, n32_clamp, n32_inT, n32_div, n32_rem, n32_m1, n32_m1', n32_m1lt, n32_ltm1, n32_10, n32_01, Nat.not_lt_zero, Nat.lt_irrefl, Nat.mul_zero, Nat.zero_mul, Nat.zero_add, Nat.add_zero, Nat.reduceEqDiff, Nat.one_ne_zero, Nat.zero_ne_one, ax_psh_none, ax_psh_some, true_and, and_true, and_false, false_and, not_true_eq_false, not_false_eq_true, true_imp_iff, false_imp_iff, imp_self, or_true, true_or, or_false, false_or, and_self, ite_true, ite_false, if_true, if_false]
  by_cases hc : gi 8 0 2 = n32 t ∧ gi 8 0 3 = n32 p ∧ gi 8 0 4 = n32 v
  · obtain ⟨t', p', a1, a2, a3, a4, a5⟩ := hF.2 hc.2.2
    rw [k796, cl_n (by omega)] at a1
    have e1 : t' = t := by
      have := a3.symm.trans hc.1
      rw [n32_eq (by omega) (by omega)] at this
      exact this
    have e2 : p' = p := by
      have := a4.symm.trans hc.2.1
      rw [n32_eq (by omega) (by omega)] at this
      exact this
    subst e1
    subst e2
    rw [decide_eq_true hc]
    simp only [b_S_free_34, b32, n32_10, ax_psh_none, ax_psh_some, true_and, and_true, and_false, false_and, not_true_eq_false, not_false_eq_true, true_imp_iff, false_imp_iff, imp_self, or_true, true_or, or_false, false_or, and_self, ite_true, ite_false, if_true, if_false]
    rw [fa_c hG a5 hle hw]
    exact hq gi g s (Fr_refl _ _) (GF_refl hG) hPI (by omega) hs hF
  · rw [decide_eq_false hc]
    simp only [b_S_free_34, b_S_free_37, b32, Bool.false_eq_true, ax_psh_none, ax_psh_some, true_and, and_true, and_false, false_and, not_true_eq_false, not_false_eq_true, true_imp_iff, false_imp_iff, imp_self, or_true, true_or, or_false, false_or, and_self, ite_true, ite_false, if_true, if_false]
    refine c_paperOf (d := d + 5) hG b1 n6 hTh hPI ht ?_
    intro gi1 ho hp1
    have hq1 := qMod_P ho
    have hB1 := BK_q hB hq1 (GF_refl hG)
    simp (disch := omega) only [b_S_free_42b, b_S_free_51, ax_psh_none, ax_psh_some, true_and, and_true, and_false, false_and, not_true_eq_false, not_false_eq_true, true_imp_iff, false_imp_iff, imp_self, or_true, true_or, or_false, false_or, and_self, ite_true, ite_false, if_true, if_false]
    refine c_handOver (d := d + 6) hB1 ht hp1 (St_P hs ho) (by omega) ?_
    intro gi2 g2 lw fr2 gf2 hC2
    have hG2 := gf2.2.1
    have hP2 := Pap_co hp1 fr2
    have hPI2 := PI_co (PI_P hPI ho (Pap_inv hp1)) fr2
    simp (disch := omega) only [b_S_free_57, G_0_15 hG2, G_0_14 hG2, ax_psh_none, ax_psh_some, true_and, and_true, and_false, false_and, not_true_eq_false, not_false_eq_true, true_imp_iff, false_imp_iff, imp_self, or_true, true_or, or_false, false_or, and_self, ite_true, ite_false, if_true, if_false]
    refine c_seek (d := d + 1) hG2 (by omega) (by omega) hC2 hP2 hPI2 ?_
    intro gi3 g3 fr3 gf3 hPI3 hS3 h83 hFV
    have hG3 := gf3.2.1
    have frc : Fr cfMod gi gi3 := Fr_trans (Fr_trans (cf_P ho) (cf_co fr2)) (cf_sk fr3)
    have e9 : gi3 0 0 9 = n32 v := (frc 0 0 9 rfl).trans h9
    simp (disch := omega) only [b_S_free_71, e_Freeing_keepFor, b_Freeing_keepFor_0, G_0_15 hG3, e9, ax_psh_none, ax_psh_some, true_and, and_true, and_false, false_and, not_true_eq_false, not_false_eq_true, true_imp_iff, false_imp_iff, imp_self, or_true, true_or, or_false, false_or, and_self, ite_true, ite_false, if_true, if_false]
    have f : ∀ s a j, ¬ (s = 8 ∧ a = 0 ∧ (j = 2 ∨ j = 4)) → ax_wI (ax_wI gi3 8 0 2 (n32 t)) 8 0 4 (n32 v) s a j = gi3 s a j := fun s a j q => by rw [wI_at, if_neg (by omega), wI_at, if_neg (by omega)]
    have f82 : ax_wI (ax_wI gi3 8 0 2 (n32 t)) 8 0 4 (n32 v) 8 0 2 = n32 t := by rw [wI_at, if_neg (by omega), wI_self]
    have f84 : ax_wI (ax_wI gi3 8 0 2 (n32 t)) 8 0 4 (n32 v) 8 0 4 = n32 v := by rw [wI_self]
    have frw : Fr cfMod gi (ax_wI (ax_wI gi3 8 0 2 (n32 t)) 8 0 4 (n32 v)) := Fr_wI (Fr_wI frc rfl) rfl
    generalize ax_wI (ax_wI gi3 8 0 2 (n32 t)) 8 0 4 (n32 v) = gi4 at *
    have hFV4 : FreeV gi4 (frK (gi 64 0) Ls t p) := ⟨(f 8 0 6 (by omega)).trans hFV.1, (f 8 0 7 (by omega)).trans hFV.2.1, fun q i hi => (f 44 0 i (by omega)).trans (hFV.2.2 q i hi)⟩
    rw [fa_c hG3 hFV4 hle hw]
    refine hq gi4 g3 (s + 1) frw (GF_trans gf2 gf3) (fun u hu => PaperInv_of (hPI3 u hu) (fun j => f 3 u j (by omega)) (fun a j => f 59 a j (by omega))) (Nat.le_refl _) (Stamps_of hS3 (f 7 0 4 (by omega)) (fun j => f 39 0 j (by omega))) ⟨Or.inr ⟨v, Nat.le_refl _, f84⟩, fun _ => ⟨t, p, ?_, by omega, f82, (f 8 0 3 (by omega)).trans h83, ?_⟩⟩
    · rw [frw 64 0 796 rfl, k796, cl_n (by omega)]
      exact ht
    · rw [show gi4 64 0 = gi 64 0 from funext (fun j => frw 64 0 j rfl)]
      exact hFV4
/-! the reference's call -/
def mgMod (s j : Nat) : Bool := (s == 12 && ((Nat.ble 15 j && Nat.ble j 28) || (Nat.ble 32 j && Nat.ble j 36))) || s == 73 || s == 74 || s == 77
theorem mgMod_f {s j : Nat} (h : mgMod s j = false) : ¬ ((s = 12 ∧ ((15 ≤ j ∧ j ≤ 28) ∨ (32 ≤ j ∧ j ≤ 36))) ∨ s = 73 ∨ s = 74 ∨ s = 77) := by
  unfold mgMod at h
  have hb : ∀ x y : Nat, Nat.ble x y = true ↔ x ≤ y := fun x y => by rw [Nat.ble_eq]
  rw [← Bool.not_eq_true] at h
  simp only [Bool.or_eq_true, Bool.and_eq_true, beq_iff_eq, hb] at h
  omega
theorem mfMod_no {s j : Nat} (h : ¬ ((s = 12 ∧ (j = 19 ∨ j = 20 ∨ j = 21 ∨ j = 32 ∨ j = 33)) ∨ s = 73 ∨ s = 74 ∨ s = 77)) : mfMod s j = false := by
  cases hz : mfMod s j with
  | false => rfl
  | true =>
    exfalso
    unfold mfMod at hz
    simp only [Bool.or_eq_true, Bool.and_eq_true, beq_iff_eq] at hz
    omega
theorem mg_l {gi gi' : GI} (h : Fr layMod gi gi') : Fr mgMod gi gi' := Fr_mono h (fun s j q => layMod_no (by have := mgMod_f q; omega))
theorem mg_f {gi gi' : GI} (h : Fr mfMod gi gi') : Fr mgMod gi gi' := Fr_mono h (fun s j q => mfMod_no (by have := mgMod_f q; omega))
theorem c_M_frees {d t nt m p v : Nat} {gi : GI} {g : AG} {Ls : Nat → List PC} {Q : Option AV → AH → Prop} (hB : BK gi g Ls nt m (gi 64 0)) (ht : t < nt) (hp : p ≤ 9) (h1 : gi 12 0 1 = n32 v) (hv : v ≤ 1000) (hM : SM gi Ls v)
    (hq : ∀ gi', Fr mgMod gi gi' → SM gi' Ls v → FreeM gi' (frK (gi 64 0) Ls t p) → Q none (gi', g)) :
    ax_call (d + 49) m_M_frees [.inr (.inr (some (12, 0))), .inl (n32 t), .inl (n32 p)] (gi, g) Q := by
  have hG := hB.2.1
  have n6 := hB.2.2.1.1
  have k796 : gi 64 0 796 = n32 nt := hB.2.2.1.2.2.1
  have hv' := thing_b hB ht
  have hW := hv'.1.2.2.2.1
  have hT := hv'.1.2.2.2.2.1
  have h64 := wt64 hW.2 hT.2
  have hL := lawM_b hB hB.2.2.1.2.2.2.2.2.2.2.1
  obtain ⟨⟨t1, t2⟩, ⟨t3, t4⟩, -, -⟩ := terms_k hB.2.2.1.2.2.2.2.2.2.2.2.1
  -- not kept yet
  have work : ∀ o3 o4 o5 o6 o7 o8 o9 o10, Runs (d + 48) (m_M_frees, 28, [some (.inr (.inr (some (12, 0)))), some (.inl (n32 t)), some (.inl (n32 p)), o3, o4, o5, o6, o7, o8, o9, o10], []) (gi, g) Q := by
    intro o3 o4 o5 o6 o7 o8 o9 o10
    rw [b_M_frees_28, h1]
    have f : ∀ s a j, ¬ (s = 12 ∧ a = 0 ∧ (j = 34 ∨ j = 35 ∨ j = 36)) → ax_wI (ax_wI (ax_wI gi 12 0 34 (n32 v)) 12 0 35 (n32 t)) 12 0 36 (n32 p) s a j = gi s a j := fun s a j q => by rw [wI_at, if_neg (by omega), wI_at, if_neg (by omega), wI_at, if_neg (by omega)]
    have f34 : ax_wI (ax_wI (ax_wI gi 12 0 34 (n32 v)) 12 0 35 (n32 t)) 12 0 36 (n32 p) 12 0 34 = n32 v := by rw [wI_at, if_neg (by omega), wI_at, if_neg (by omega), wI_self]
    have f35 : ax_wI (ax_wI (ax_wI gi 12 0 34 (n32 v)) 12 0 35 (n32 t)) 12 0 36 (n32 p) 12 0 35 = n32 t := by rw [wI_at, if_neg (by omega), wI_self]
    have f36 : ax_wI (ax_wI (ax_wI gi 12 0 34 (n32 v)) 12 0 35 (n32 t)) 12 0 36 (n32 p) 12 0 36 = n32 p := by rw [wI_self]
    have frw : Fr mgMod gi (ax_wI (ax_wI (ax_wI gi 12 0 34 (n32 v)) 12 0 35 (n32 t)) 12 0 36 (n32 p)) := Fr_wI (Fr_wI (Fr_wI (Fr_refl _ _) rfl) rfl) rfl
    generalize ax_wI (ax_wI (ax_wI gi 12 0 34 (n32 v)) 12 0 35 (n32 t)) 12 0 36 (n32 p) = gi1 at *
    have e64 : ∀ j, gi1 64 0 j = gi 64 0 j := fun j => f 64 0 j (by omega)
    refine c_M_lays (d := d + 46) hG (by omega) (ThM_fr hv'.2.1 e64) ?_
    intro gi2 fr2 hl2 h27 h28
    have e64' : ∀ j, gi2 64 0 j = gi 64 0 j := fun j => (fr2 64 0 j rfl).trans (e64 j)
    have hm2 : MFr gi2 t (Wk (gi 64 0) t) (Tk (gi 64 0) t) (Ok (gi 64 0) t) (dyk (gi 64 0)) (slk (gi 64 0)) (lawL Ls (gi 64 0 798)) (bk (gi 64 0) t) := by
      refine ⟨hl2, ?_, ?_, ?_, ?_, hW.1, hT.1, hv'.2.2.1, by omega, by omega⟩
      · exact ForceM_LawM (gi := gi) hL (h27.trans (e64 798)) e64'
      · rw [h28, e64]
        exact t3
      · rw [e64']
        exact hv'.2.1.2.2.1
      · rw [e64']
        exact t1
    simp only [ax_psh_none]
    rw [b_M_frees_51]
    have g2 : ∀ s a j, ¬ (s = 12 ∧ a = 0 ∧ (j = 32 ∨ j = 33)) → ax_wI (ax_wI gi2 12 0 33 (n32 0)) 12 0 32 (-1) s a j = gi2 s a j := fun s a j q => by rw [wI_at, if_neg (by omega), wI_at, if_neg (by omega)]
    have g33 : ax_wI (ax_wI gi2 12 0 33 (n32 0)) 12 0 32 (-1) 12 0 33 = n32 0 := by rw [wI_at, if_neg (by omega), wI_self]
    have g32 : ax_wI (ax_wI gi2 12 0 33 (n32 0)) 12 0 32 (-1) 12 0 32 = -1 := by rw [wI_self]
    have frg : Fr mfMod gi2 (ax_wI (ax_wI gi2 12 0 33 (n32 0)) 12 0 32 (-1)) := Fr_wI (Fr_wI (Fr_refl _ _) rfl) rfl
    generalize ax_wI (ax_wI gi2 12 0 33 (n32 0)) 12 0 32 (-1) = gi3 at *
    have hm3 : MFr gi3 t (Wk (gi 64 0) t) (Tk (gi 64 0) t) (Ok (gi 64 0) t) (dyk (gi 64 0)) (slk (gi 64 0)) (lawL Ls (gi 64 0 798)) (bk (gi 64 0) t) := MFr_of hm2 (fun j q1 q2 => g2 12 0 j (by omega)) (fun j => g2 64 0 j (by omega)) (fun j => g2 74 0 j (by omega))
    refine c_M_found (d := d) (w := 0) (r := []) (x := (0, [])) hG hm3 ⟨g33, fun q => absurd q (Nat.lt_irrefl 0), fun _ => g32⟩ (by decide) (by omega) (fun q => absurd q (Nat.lt_irrefl 0)) (fun q => absurd q (by omega)) (fun q => absurd q (by omega)) ?_
    intro gi4 fr4 hm4 hv4
    have e25 := hm4.1.2.1
    have e26 := hm4.1.2.2.1
    simp (disch := omega) only [b_M_frees_69, e25, e26, n32_mul, ax_psh_none]
    generalize hW' : Wk (gi 64 0) t = W at *
    generalize hT' : Tk (gi 64 0) t = T at *
    generalize hok : okF (lawL Ls (gi 64 0 798)) W T (Ok (gi 64 0) t) (dyk (gi 64 0)) (slk (gi 64 0)) = ok at *
    have hfk : frK (gi 64 0) Ls t p = frAt (W * T) p ok (bk (gi 64 0) t) 3 := by
      unfold frK
      rw [hW', hT', hok]
    -- the sizes
    have fin : ∀ (gi5 : GI), Fr mfMod gi2 gi5 → MFV gi5 (frAt (W * T) p ok (bk (gi 64 0) t) 3).1 (frAt (W * T) p ok (bk (gi 64 0) t) 3).2 → Q none (gi5, g) := by
      intro gi5 fr5 hv5
      have frA : Fr mgMod gi gi5 := Fr_trans (Fr_trans frw (mg_l fr2)) (mg_f fr5)
      have hfm : FreeM gi5 (frK (gi 64 0) Ls t p) := by
        rw [hfk]
        refine ⟨?_, hv5.1, fun q i hi => (hv5.2.1 q).2 i hi⟩
        unfold frW
        by_cases z : (frAt (W * T) p ok (bk (gi 64 0) t) 3).2.1 = 0
        · rw [if_pos z]
          exact hv5.2.2 z
        · rw [if_neg z]
          exact (hv5.2.1 (by omega)).1
      have q34 : gi5 12 0 34 = n32 v := (fr5 12 0 34 rfl).trans ((fr2 12 0 34 rfl).trans f34)
      refine hq gi5 frA ⟨Or.inr ⟨v, Nat.le_refl _, q34⟩, fun _ => ⟨t, p, ?_, by omega, (fr5 12 0 35 rfl).trans ((fr2 12 0 35 rfl).trans f35), (fr5 12 0 36 rfl).trans ((fr2 12 0 36 rfl).trans f36), ?_⟩⟩ hfm
      · rw [frA 64 0 796 rfl, k796, cl_n (by omega)]
        exact ht
      · rw [show gi5 64 0 = gi 64 0 from funext (fun j => frA 64 0 j rfl)]
        exact hfm
    have key : ∀ j, j ≤ 3 → ∀ (gi5 : GI) o1 o5 o6 o7 o8 o9 o10, Fr mfMod gi2 gi5 → MFr gi5 t W T (Ok (gi 64 0) t) (dyk (gi 64 0)) (slk (gi 64 0)) (lawL Ls (gi 64 0 798)) (bk (gi 64 0) t) → MFV gi5 (frAt (W * T) p ok (bk (gi 64 0) t) j).1 (frAt (W * T) p ok (bk (gi 64 0) t) j).2 → Runs (d + 48) (m_M_frees, 82, [some (.inr (.inr (some (12, 0)))), o1, some (.inl (n32 p)), some (.inl (n32 (W * T))), some (.inl (n32 (j + 1))), o5, o6, o7, o8, o9, o10], []) (gi5, g) Q := by
      intro j hj
      obtain ⟨k, rfl⟩ : ∃ k, j = 3 - k := ⟨3 - j, by omega⟩
      clear hj
      induction k with
      | zero =>
        rw [show 3 - 0 = 3 from rfl]
        intro gi5 o1 o5 o6 o7 o8 o9 o10 fr5 hm5 hv5
        rw [b_M_frees_82]
        simp (disch := omega) only [b_M_frees_284, n32_add, n32_mul, n32_lt, n32_le, n32_eq, n32_clamp, n32_inT, n32_div, n32_rem, n32_m1, n32_m1', n32_m1lt, n32_ltm1, n32_10, n32_01, Nat.not_lt_zero, Nat.lt_irrefl, Nat.mul_zero, Nat.zero_mul, Nat.zero_add, Nat.add_zero, Nat.reduceEqDiff, Nat.one_ne_zero, Nat.zero_ne_one, ax_psh_none, ax_psh_some, true_and, and_true, and_false, false_and, not_true_eq_false, not_false_eq_true, true_imp_iff, false_imp_iff, imp_self, or_true, true_or, or_false, false_or, and_self, ite_true, ite_false, if_true, if_false, Nat.reduceAdd, Nat.reduceLT]
        exact fin gi5 fr5 hv5
      | succ k ih =>
        by_cases hk3 : 3 ≤ k
        · rw [show 3 - (k + 1) = 3 - k by omega]
          exact ih
        · rw [show 3 - k = 3 - (k + 1) + 1 by omega] at ih
          generalize hj : 3 - (k + 1) = j at *
          have hj3 : ¬ 3 < j + 1 := by omega
          intro gi5 o1 o5 o6 o7 o8 o9 o10 fr5 hm5 hv5
          have hle := frAt_le (p := p) (ok := ok) (b := bk (gi 64 0) t) h64 (show j ≤ 3 by omega)
          rw [b_M_frees_82]
          by_cases z : (frAt (W * T) p ok (bk (gi 64 0) t) j).2.1 = 0
          · obtain ⟨z1, z2, z3⟩ := frAt_zero z
            have eAt : frAt (W * T) p ok (bk (gi 64 0) t) (j + 1) = (j + 1, levM (W * T) p ok (j + 1) (bk (gi 64 0) t) [] (0, []) 0) := by
              show (if (frAt (W * T) p ok (bk (gi 64 0) t) j).2.1 = 0 then _ else _) = _
              rw [if_pos z]
            have q33 := hv5.1
            rw [z] at q33
            simp (disch := omega) only [b_M_frees_88, b_M_frees_95, hj3, q33, n32_add, n32_mul, n32_lt, n32_le, n32_eq, n32_clamp, n32_inT, n32_div, n32_rem, n32_m1, n32_m1', n32_m1lt, n32_ltm1, n32_10, n32_01, Nat.not_lt_zero, Nat.lt_irrefl, Nat.mul_zero, Nat.zero_mul, Nat.zero_add, Nat.add_zero, Nat.reduceEqDiff, Nat.one_ne_zero, Nat.zero_ne_one, ax_psh_none, ax_psh_some, true_and, and_true, and_false, false_and, not_true_eq_false, not_false_eq_true, true_imp_iff, false_imp_iff, imp_self, or_true, true_or, or_false, false_or, and_self, ite_true, ite_false, if_true, if_false]
            refine mf_a (sz := j + 1) hG (by omega) (by omega) hm5 ⟨q33, fun q => absurd q (Nat.lt_irrefl 0), fun _ => hv5.2.2 z⟩ _ _ _ _ _ _ ?_
            intro gi6 o5' o6' o7' o8' o9' o10' fr6 hm6 hv6
            rw [b_M_frees_278, n32_add]
            refine ih gi6 _ _ _ _ _ _ _ (Fr_trans fr5 fr6) hm6 ?_
            rw [eAt]
            rw [hok] at hv6
            exact hv6
          · have eAt : frAt (W * T) p ok (bk (gi 64 0) t) (j + 1) = frAt (W * T) p ok (bk (gi 64 0) t) j := by
              show (if (frAt (W * T) p ok (bk (gi 64 0) t) j).2.1 = 0 then _ else _) = _
              rw [if_neg z]
            have e3 : frAt (W * T) p ok (bk (gi 64 0) t) 3 = frAt (W * T) p ok (bk (gi 64 0) t) j := by
              have st : ∀ i, j ≤ i → i ≤ 3 → frAt (W * T) p ok (bk (gi 64 0) t) i = frAt (W * T) p ok (bk (gi 64 0) t) j := by
                intro i
                induction i with
                | zero =>
                  intro h1 _
                  rw [show j = 0 by omega]
                | succ i ih2 =>
                  intro h1 h2
                  by_cases q : j = i + 1
                  · rw [q]
                  · have := ih2 (by omega) (by omega)
                    show (if (frAt (W * T) p ok (bk (gi 64 0) t) i).2.1 = 0 then _ else _) = _
                    rw [this, if_neg z]
              exact st 3 (by omega) (by omega)
            have q33 := hv5.1
            simp (disch := omega) only [b_M_frees_88, b_M_frees_284, hj3, q33, z, n32_add, n32_mul, n32_lt, n32_le, n32_eq, n32_clamp, n32_inT, n32_div, n32_rem, n32_m1, n32_m1', n32_m1lt, n32_ltm1, n32_10, n32_01, Nat.not_lt_zero, Nat.lt_irrefl, Nat.mul_zero, Nat.zero_mul, Nat.zero_add, Nat.add_zero, Nat.reduceEqDiff, Nat.one_ne_zero, Nat.zero_ne_one, ax_psh_none, ax_psh_some, true_and, and_true, and_false, false_and, not_true_eq_false, not_false_eq_true, true_imp_iff, false_imp_iff, imp_self, or_true, true_or, or_false, false_or, and_self, ite_true, ite_false, if_true, if_false]
            refine fin gi5 fr5 ?_
            rw [e3]
            exact hv5
    refine key 0 (by omega) gi4 _ _ _ _ _ _ _ (Fr_trans frg fr4) hm4 ?_
    exact hv4
  rw [e_M_frees, b_M_frees_0, h1]
  refine ⟨fun q1 => ?_, fun _ => work _ _ _ _ _ _ _ _⟩
  rw [b_M_frees_11]
  refine ⟨fun q2 => ?_, fun _ => work _ _ _ _ _ _ _ _⟩
  rw [b_M_frees_19]
  refine ⟨fun q3 => ?_, fun _ => work _ _ _ _ _ _ _ _⟩
  rw [b_M_frees_27]
  obtain ⟨t', p', a1, a2, a3, a4, a5⟩ := hM.2 q1
  rw [k796, cl_n (by omega)] at a1
  have e1 : t' = t := by
    have := a3.symm.trans q2
    rw [n32_eq (by omega) (by omega)] at this
    exact this
  have e2 : p' = p := by
    have := a4.symm.trans q3
    rw [n32_eq (by omega) (by omega)] at this
    exact this
  subst e1
  subst e2
  exact hq gi (Fr_refl _ _) hM a5
