/-! fills, sure, on both -/
def FillC (gi : GI) (K : Nat → Int32) (Ls : Nat → List PC) (t P sum : Nat) : Prop := gi 9 0 7 = n32 (hoK K t) ∧ (∀ i, i < hoK K t → gi 45 0 i = n32 (hcK K t i)) ∧ FillS gi (lCK K Ls t P sum) (hoK K t)
theorem FillC_of {gi gi' : GI} {K : Nat → Int32} {Ls : Nat → List PC} {t P sum : Nat} (h : FillC gi K Ls t P sum) (h9 : ∀ j, gi' 9 0 j = gi 9 0 j) (h45 : ∀ j, gi' 45 0 j = gi 45 0 j) (h46 : ∀ j, gi' 46 0 j = gi 46 0 j) : FillC gi' K Ls t P sum := ⟨(h9 7).trans h.1, fun i hi => (h45 i).trans (h.2.1 i hi), FillS_of h.2.2 (h9 6) h46⟩
def SL (gi : GI) (Ls : Nat → List PC) (v : Nat) : Prop := (gi 9 0 5 = -1 ∨ ∃ x, x ≤ v ∧ gi 9 0 5 = n32 x) ∧ (gi 9 0 5 = n32 v → ∃ t P sum, t < cl (gi 64 0 796) ∧ (2 ≤ P ∧ P ≤ 4) ∧ sum ≤ 9999 ∧ gi 9 0 2 = n32 t ∧ gi 9 0 3 = n32 P ∧ gi 9 0 4 = n32 sum ∧ FillC gi (gi 64 0) Ls t P sum)
theorem SL_of {gi gi' : GI} {Ls : Nat → List PC} {v : Nat} (h : SL gi Ls v) (h9 : ∀ j, gi' 9 0 j = gi 9 0 j) (h45 : ∀ j, gi' 45 0 j = gi 45 0 j) (h46 : ∀ j, gi' 46 0 j = gi 46 0 j) (h64 : ∀ j, gi' 64 0 j = gi 64 0 j) : SL gi' Ls v := by
  have e64 : gi' 64 0 = gi 64 0 := funext h64
  unfold SL at *
  rw [h9 5, h9 2, h9 3, h9 4, e64]
  refine ⟨h.1, fun q => ?_⟩
  obtain ⟨t, P, sum, a1, a2, a3, a4, a5, a6, a7⟩ := h.2 q
  exact ⟨t, P, sum, a1, a2, a3, a4, a5, a6, FillC_of a7 h9 h45 h46⟩
theorem c_lisOf (d : Nat) (gi : GI) (g : AG) (Q : Option AV → AH → Prop) (x y z w : Int32) : ax_call (d + 1) m_Filling_isOf [.inr (.inr (some (9, 0))), .inl x, .inl y, .inl z, .inl w] (gi, g) Q = Q (some (.inl (b32 (decide (gi 9 0 2 = x ∧ gi 9 0 3 = y ∧ gi 9 0 4 = z ∧ gi 9 0 5 = w))))) (gi, g) := by
  by_cases h1 : gi 9 0 2 = x
  · by_cases h2 : gi 9 0 3 = y
    · by_cases h3 : gi 9 0 4 = z
      · by_cases h4 : gi 9 0 5 = w
        · simp only [e_Filling_isOf, b_Filling_isOf_0, b_Filling_isOf_8, b_Filling_isOf_16, b_Filling_isOf_24, b_Filling_isOf_33, b_Filling_isOf_37, b_Filling_isOf_38, h1, h2, h3, h4, decide_true, b32, n32_10, ax_psh_none, ax_psh_some, true_and, and_true, and_false, false_and, not_true_eq_false, not_false_eq_true, true_imp_iff, false_imp_iff, imp_self, or_true, true_or, or_false, false_or, and_self, ite_true, ite_false, if_true, if_false]
        · simp only [e_Filling_isOf, b_Filling_isOf_0, b_Filling_isOf_8, b_Filling_isOf_16, b_Filling_isOf_24, b_Filling_isOf_33, b_Filling_isOf_37, b_Filling_isOf_38, h1, h2, h3, h4, decide_false, b32, Bool.false_eq_true, ax_psh_none, ax_psh_some, true_and, and_true, and_false, false_and, not_true_eq_false, not_false_eq_true, true_imp_iff, false_imp_iff, imp_self, or_true, true_or, or_false, false_or, and_self, ite_true, ite_false, if_true, if_false]
      · simp only [e_Filling_isOf, b_Filling_isOf_0, b_Filling_isOf_8, b_Filling_isOf_16, b_Filling_isOf_24, b_Filling_isOf_33, b_Filling_isOf_37, b_Filling_isOf_38, h1, h2, h3, decide_false, b32, Bool.false_eq_true, ax_psh_none, ax_psh_some, true_and, and_true, and_false, false_and, not_true_eq_false, not_false_eq_true, true_imp_iff, false_imp_iff, imp_self, or_true, true_or, or_false, false_or, and_self, ite_true, ite_false, if_true, if_false]
    · simp only [e_Filling_isOf, b_Filling_isOf_0, b_Filling_isOf_8, b_Filling_isOf_16, b_Filling_isOf_24, b_Filling_isOf_33, b_Filling_isOf_37, b_Filling_isOf_38, h1, h2, decide_false, b32, Bool.false_eq_true, ax_psh_none, ax_psh_some, true_and, and_true, and_false, false_and, not_true_eq_false, not_false_eq_true, true_imp_iff, false_imp_iff, imp_self, or_true, true_or, or_false, false_or, and_self, ite_true, ite_false, if_true, if_false]
  · simp only [e_Filling_isOf, b_Filling_isOf_0, b_Filling_isOf_8, b_Filling_isOf_16, b_Filling_isOf_24, b_Filling_isOf_33, b_Filling_isOf_37, b_Filling_isOf_38, h1, decide_false, b32, Bool.false_eq_true, ax_psh_none, ax_psh_some, true_and, and_true, and_false, false_and, not_true_eq_false, not_false_eq_true, true_imp_iff, false_imp_iff, imp_self, or_true, true_or, or_false, false_or, and_self, ite_true, ite_false, if_true, if_false]
def cgMod (s _j : Nat) : Bool := s == 3 || s == 5 || s == 7 || (Nat.ble 39 s && Nat.ble s 42) || (Nat.ble 54 s && Nat.ble s 59) || s == 9 || s == 45 || s == 46
theorem cgMod_f {s j : Nat} (h : cgMod s j = false) : ¬ (s = 3 ∨ s = 5 ∨ s = 7 ∨ (39 ≤ s ∧ s ≤ 42) ∨ (54 ≤ s ∧ s ≤ 59) ∨ s = 9 ∨ s = 45 ∨ s = 46) := by
  unfold cgMod at h
  have hb : ∀ x y : Nat, Nat.ble x y = true ↔ x ≤ y := fun x y => by rw [Nat.ble_eq]
  rw [← Bool.not_eq_true] at h
  simp only [Bool.or_eq_true, Bool.and_eq_true, beq_iff_eq, hb] at h
  omega
theorem cgMod_no {s j : Nat} (h : ¬ (s = 3 ∨ s = 5 ∨ s = 7 ∨ (39 ≤ s ∧ s ≤ 42) ∨ (54 ≤ s ∧ s ≤ 59) ∨ s = 9 ∨ s = 45 ∨ s = 46)) : cgMod s j = false := by
  cases hz : cgMod s j with
  | false => rfl
  | true =>
    exfalso
    unfold cgMod at hz
    have hb : ∀ x y : Nat, Nat.ble x y = true ↔ x ≤ y := fun x y => by rw [Nat.ble_eq]
    simp only [Bool.or_eq_true, Bool.and_eq_true, beq_iff_eq, hb] at hz
    omega
theorem flMod_no {s j : Nat} (h : ¬ (s = 3 ∨ (54 ≤ s ∧ s ≤ 57) ∨ s = 59 ∨ (39 ≤ s ∧ s ≤ 42) ∨ s = 5 ∨ s = 9 ∨ s = 46)) : flMod s j = false := by
  cases hz : flMod s j with
  | false => rfl
  | true =>
    exfalso
    unfold flMod at hz
    have hb : ∀ x y : Nat, Nat.ble x y = true ↔ x ≤ y := fun x y => by rw [Nat.ble_eq]
    simp only [Bool.or_eq_true, Bool.and_eq_true, beq_iff_eq, hb] at hz
    omega
theorem cg_P {gi gi' : GI} {t : Nat} (h : OnlyP t gi gi') : Fr cgMod gi gi' := fun s a j q => by
  have := cgMod_f q
  exact h s a j (by omega) (by omega) (by omega)
theorem cg_co {gi gi' : GI} (h : Fr coMod gi gi') : Fr cgMod gi gi' := Fr_mono h (fun s j q => coMod_no (by have := cgMod_f q; omega))
theorem cg_fl {gi gi' : GI} (h : Fr flMod gi gi') : Fr cgMod gi gi' := Fr_mono h (fun s j q => flMod_no (by have := cgMod_f q; omega))
theorem c_seekFill {d t nt m P sum v s : Nat} {gi : GI} {g : AG} {Ls : Nat → List PC} {Q : Option AV → AH → Prop} (hB : BK gi g Ls nt m (gi 64 0)) (hPI : ∀ u, u < 6 → PaperInv gi u) (hs : Stamps gi s) (hs1 : s + 1 < 100000000) (ht : t < nt) (hP : 2 ≤ P ∧ P ≤ 4) (hsum : sum ≤ 9999) (h9 : gi 0 0 9 = n32 v) (hv : v ≤ 1000) (hSL : SL gi Ls v)
    (hq : ∀ gi' g' s', Fr cgMod gi gi' → GF g g' → (∀ u, u < 6 → PaperInv gi' u) → s' ≤ s + 1 → Stamps gi' s' → SL gi' Ls v → FillC gi' (gi 64 0) Ls t P sum → Q (some (.inl (n32 1))) (gi', g')) :
    ax_call (d + 14) m_S_seekFillings [.inr (.inr (some (0, 0))), .inl (n32 t), .inl (n32 P), .inl (n32 sum)] (gi, g) Q := by
  have hG := hB.2.1
  have n6 := hB.2.2.1.1
  have b1 := hB.2.2.1.2.2.2.2.1
  have hTh := hB.2.2.2.1
  have k796 : gi 64 0 796 = n32 nt := hB.2.2.1.2.2.1
  obtain ⟨hH6, hcm, hinj⟩ := hoK_le hB ht
  rw [e_S_seekFillings]
  simp (disch := omega) only [b_S_seekFillings_0, b_S_seekFillings_6, b_S_seekFillings_9, b_S_seekFillings_17, b_S_seekFillings_22, c_S_within, win_T, c_lisOf, h9, G_0_0 hG, G_0_1 hG, G_0_2 hG, G_0_3 hG, G_0_7 hG, G_0_10 hG, G_0_12 hG, G_0_13 hG, G_0_14 hG, G_0_15 hG, G_0_16 hG, G_0_17 hG, G_1_0 hG, G_1_2 hG, G_1_5 hG, G_2_4 hG, G_2_5 hG, G_3_5 hG, G_3_6 hG, G_3_7 hG, G_3_8 hG, G_3_9 hG, G_5_0 hG, G_5_1 hG, G_6_0 hG, G_6_1 hG, G_6_2 hG, G_6_9 hG, G_6_10 hG, G_6_11 hG, G_6_12 hG, G_6_13 hG, G_7_0 hG, G_7_5 hG, G_8_8 hG, G_8_9 hG, G_9_8 hG, G_9_9 hG, G_10_7 hG, G_10_8 hG, G_10_9 hG, G_10_10 hG, G_10_11 hG, G_11_0 hG, G_12_2 hG, G_12_3 hG, G_12_4 hG, G_12_5 hG, G_12_7 hG, G_12_8 hG, G_12_9 hG, G_12_12 hG, G_12_13 hG, G_12_14 hG, G_12_22 hG, G_12_23 hG, G_12_29 hG, G_12_30 hG, G_12_31 hG, G_12_37 hG, G_12_38 hG, G_12_39 hG, G_12_40 hG, G_12_41 hG, G_12_43 hG, G_12_46 hG, G_12_47 hG, G_12_48 hG, G_25 hG, G_26 hG, G_47 hG, G_58 hG, n32_add, n32_mul, n32_lt, n32_le, n32_eq, n32_clamp, n32_inT, n32_div, n32_rem, n32_m1, n32_m1', n32_m1lt, n32_ltm1, n32_10, n32_01, Nat.not_lt_zero, Nat.lt_irrefl, Nat.mul_zero, Nat.zero_mul, Nat.zero_add, Nat.add_zero, Nat.reduceEqDiff, Nat.one_ne_zero, Nat.zero_ne_one, ax_psh_none, ax_psh_some, true_and, and_true, and_false, false_and, not_true_eq_false, not_false_eq_true, true_imp_iff, false_imp_iff, imp_self, or_true, true_or, or_false, false_or, and_self, ite_true, ite_false, if_true, if_false]
  by_cases hc : gi 9 0 2 = n32 t ∧ gi 9 0 3 = n32 P ∧ gi 9 0 4 = n32 sum ∧ gi 9 0 5 = n32 v
  · obtain ⟨t', P', sum', a1, a2, a3, a4, a5, a6, a7⟩ := hSL.2 hc.2.2.2
    rw [k796, cl_n (by omega)] at a1
    have e1 : t' = t := by
      have := a4.symm.trans hc.1
      rw [n32_eq (by omega) (by omega)] at this
      exact this
    have e2 : P' = P := by
      have := a5.symm.trans hc.2.1
      rw [n32_eq (by omega) (by omega)] at this
      exact this
    have e3 : sum' = sum := by
      have := a6.symm.trans hc.2.2.1
      rw [n32_eq (by omega) (by omega)] at this
      exact this
    subst e1
    subst e2
    subst e3
    rw [decide_eq_true hc]
    simp only [b_S_seekFillings_36, b_S_seekFillings_39, b32, n32_10, ax_psh_none, ax_psh_some, true_and, and_true, and_false, false_and, not_true_eq_false, not_false_eq_true, true_imp_iff, false_imp_iff, imp_self, or_true, true_or, or_false, false_or, and_self, ite_true, ite_false, if_true, if_false]
    exact hq gi g s (Fr_refl _ _) (GF_refl hG) hPI (by omega) hs hSL a7
  · rw [decide_eq_false hc]
    simp only [b_S_seekFillings_36, b_S_seekFillings_41, b32, Bool.false_eq_true, ax_psh_none, ax_psh_some, true_and, and_true, and_false, false_and, not_true_eq_false, not_false_eq_true, true_imp_iff, false_imp_iff, imp_self, or_true, true_or, or_false, false_or, and_self, ite_true, ite_false, if_true, if_false]
    refine c_paperOf (d := d + 8) hG b1 n6 hTh hPI ht ?_
    intro gi1 ho hp1
    have hq1 := qMod_P ho
    have hB1 := BK_q hB hq1 (GF_refl hG)
    simp (disch := omega) only [b_S_seekFillings_46b, b_S_seekFillings_55, ax_psh_none, ax_psh_some, true_and, and_true, and_false, false_and, not_true_eq_false, not_false_eq_true, true_imp_iff, false_imp_iff, imp_self, or_true, true_or, or_false, false_or, and_self, ite_true, ite_false, if_true, if_false]
    refine c_handOver (d := d + 9) hB1 ht hp1 (St_P hs ho) (by omega) ?_
    intro gi2 g2 lw fr2 gf2 hC2
    have hG2 := gf2.2.1
    have hP2 := Pap_co hp1 fr2
    have hPI2 := PI_co (PI_P hPI ho (Pap_inv hp1)) fr2
    have hB2 := BK_q hB1 (q_co fr2) gf2
    have hv2 := thing_b hB2 ht
    simp (disch := omega) only [b_S_seekFillings_61, G_0_16 hG2, G_0_0 hG2, G_1_0 hG2, G_26 hG2, n32_add, n32_mul, n32_lt, n32_le, n32_eq, n32_clamp, n32_inT, n32_div, n32_rem, n32_m1, n32_m1', n32_m1lt, n32_ltm1, n32_10, n32_01, Nat.not_lt_zero, Nat.lt_irrefl, Nat.mul_zero, Nat.zero_mul, Nat.zero_add, Nat.add_zero, Nat.reduceEqDiff, Nat.one_ne_zero, Nat.zero_ne_one, ax_psh_none, ax_psh_some, true_and, and_true, and_false, false_and, not_true_eq_false, not_false_eq_true, true_imp_iff, false_imp_iff, imp_self, or_true, true_or, or_false, false_or, and_self, ite_true, ite_false, if_true, if_false]
    refine c_findHoles (d := d + 11) hG2 hv2.1 (fun c hc => ⟨(hv2.2.2.2.2.2.1 c hc).1, (hv2.2.2.2.2.2.1 c hc).2.2⟩) hv2.2.2.2.2.2.2 ?_
    intro gi3 f3 h97 h45
    have c3 : ∀ s a j, s ≠ 45 → s ≠ 9 → gi3 s a j = gi2 s a j := fun s a j q1 q2 => f3 s a j q1 (by omega)
    -- prepared
    obtain ⟨g4, eg4⟩ : ∃ g4 : AG, g4 = (ax_wR (ax_wR g2.1 9 0 0 (some (7, 0))) 9 0 1 (some (3, t)), g2.2) := ⟨_, rfl⟩
    have g4a : ∀ s a j, ¬ (s = 9 ∧ (j = 0 ∨ j = 1)) → g4.1 s a j = g2.1 s a j := fun s a j q => by
      rw [eg4]
      show ax_wR (ax_wR g2.1 9 0 0 (some (7, 0))) 9 0 1 (some (3, t)) s a j = _
      rw [wR_at, if_neg (by omega), wR_at, if_neg (by omega)]
    have g90 : g4.1 9 0 0 = some (7, 0) := by
      rw [eg4]
      show ax_wR (ax_wR g2.1 9 0 0 (some (7, 0))) 9 0 1 (some (3, t)) 9 0 0 = _
      rw [wR_at, if_neg (by omega), wR_at, if_pos ⟨rfl, rfl, rfl⟩]
    have g91 : g4.1 9 0 1 = some (3, t) := by
      rw [eg4]
      show ax_wR (ax_wR g2.1 9 0 0 (some (7, 0))) 9 0 1 (some (3, t)) 9 0 1 = _
      rw [wR_at, if_pos ⟨rfl, rfl, rfl⟩]
    have hG4 : GOK g4 := GOK_of2 hG2 (fun s a j _ _ q => g4a s a j q)
    have gf4 : GF g2 g4 := ⟨fun s a j _ _ q => g4a s a j (by omega), hG4, by rw [eg4]⟩
    simp (disch := omega) only [b_S_seekFillings_77, e_Filling_prepare, b_Filling_prepare_0, G_0_16 hG2, G_0_14 hG2, ax_psh_none, ax_psh_some, true_and, and_true, and_false, false_and, not_true_eq_false, not_false_eq_true, true_imp_iff, false_imp_iff, imp_self, or_true, true_or, or_false, false_or, and_self, ite_true, ite_false, if_true, if_false]
    rw [← eg4]
    have f4 : ∀ s a j, ¬ (s = 9 ∧ a = 0 ∧ (j = 3 ∨ j = 4 ∨ j = 6)) → ax_wI (ax_wI (ax_wI gi3 9 0 3 (n32 P)) 9 0 4 (n32 sum)) 9 0 6 (n32 0) s a j = gi3 s a j := fun s a j q => by rw [wI_at, if_neg (by omega), wI_at, if_neg (by omega), wI_at, if_neg (by omega)]
    have v3 : ax_wI (ax_wI (ax_wI gi3 9 0 3 (n32 P)) 9 0 4 (n32 sum)) 9 0 6 (n32 0) 9 0 3 = n32 P := by rw [wI_at, if_neg (by omega), wI_at, if_neg (by omega), wI_self]
    have v4 : ax_wI (ax_wI (ax_wI gi3 9 0 3 (n32 P)) 9 0 4 (n32 sum)) 9 0 6 (n32 0) 9 0 4 = n32 sum := by rw [wI_at, if_neg (by omega), wI_self]
    have v6 : ax_wI (ax_wI (ax_wI gi3 9 0 3 (n32 P)) 9 0 4 (n32 sum)) 9 0 6 (n32 0) 9 0 6 = n32 0 := by rw [wI_self]
    generalize ax_wI (ax_wI (ax_wI gi3 9 0 3 (n32 P)) 9 0 4 (n32 sum)) 9 0 6 (n32 0) = gi4 at *
    have c4 : ∀ s a j, s ≠ 45 → s ≠ 9 → gi4 s a j = gi2 s a j := fun s a j q1 q2 => (f4 s a j (by omega)).trans (c3 s a j q1 q2)
    have hC4 : ClerkOn gi4 g4 t (Wk (gi 64 0) t) (Tk (gi 64 0) t) (Ok (gi 64 0) t) (dyk (gi 64 0)) (slk (gi 64 0)) (s + 1) lw (lawL Ls (gi 64 0 798)) := ClerkOn_of hG4 (ClerkOn_g hC2 gf4 (g4a 7 0 1 (by omega)) (g4a 7 0 2 (by omega))) (fun s a j q => c4 s a j (by omega) (by omega))
    have hP4 : Pap gi4 t (Wk (gi 64 0) t) (Tk (gi 64 0) t) (Ok (gi 64 0) t) (bk (gi 64 0) t) := by
      obtain ⟨⟨p0, p1, p4, pW, pT, pw⟩, h2, h3, h54, hb, h55, h56⟩ := hP2
      exact ⟨⟨(c4 _ _ _ (by decide) (by decide)).trans p0, (c4 _ _ _ (by decide) (by decide)).trans p1, (c4 _ _ _ (by decide) (by decide)).trans p4, pW, pT, fun f hf c hc => (c4 _ _ _ (by decide) (by decide)).trans (pw f hf c hc)⟩, (c4 _ _ _ (by decide) (by decide)).trans h2, (c4 _ _ _ (by decide) (by decide)).trans h3, fun c hc => (c4 _ _ _ (by decide) (by decide)).trans (h54 c hc), hb, fun l hl => (c4 _ _ _ (by decide) (by decide)).trans (h55 l hl), fun p hp => (c4 _ _ _ (by decide) (by decide)).trans (h56 p hp)⟩
    have hPI4 : ∀ u, u < 6 → PaperInv gi4 u := fun u hu => PaperInv_of (hPI2 u hu) (fun j => c4 3 u j (by decide) (by decide)) (fun a j => c4 59 a j (by decide) (by decide))
    have q45 : ∀ u, u < hoK (gi 64 0) t → gi4 45 0 u = n32 (hcK (gi 64 0) t u) ∧ hcK (gi 64 0) t u < Wk (gi 64 0) t * Tk (gi 64 0) t := fun u hu => ⟨(f4 45 0 u (by omega)).trans (h45 u hu), (hcm u hu).1⟩
    have q97 : gi4 9 0 7 = n32 (hoK (gi 64 0) t) := (f4 9 0 7 (by omega)).trans h97
    have hpow : P ^ hoK (gi 64 0) t ≤ 4096 := Nat.le_trans (Nat.pow_le_pow_left hP.2 _) (Nat.le_trans (Nat.pow_le_pow_right (by omega) hH6) (by decide))
    simp (disch := omega) only [b_S_seekFillings_92, G_0_16 hG4, ax_psh_none, ax_psh_some, true_and, and_true, and_false, false_and, not_true_eq_false, not_false_eq_true, true_imp_iff, false_imp_iff, imp_self, or_true, true_or, or_false, false_or, and_self, ite_true, ite_false, if_true, if_false]
    rw [show d + 13 = (d + 7 - hoK (gi 64 0) t) + 6 + hoK (gi 64 0) t by omega]
    refine c_fillFrom (s := s + 1) (lw := lw) (L := lawL Ls (gi 64 0 798)) (b := bk (gi 64 0) t) (c := hcK (gi 64 0) t) (sum := sum) hG4 (by omega) hP.2 hH6 hsum hinj g90 g91 (hoK (gi 64 0) t) (d + 7 - hoK (gi 64 0) t) 0 (fun _ => 0) (bk (gi 64 0) t) [] gi4 _ (by omega) (fun u hu => absurd hu (Nat.not_lt_zero u)) (by simp only [List.length_nil]; omega) hC4 hP4 ⟨fun u hu => absurd hu (Nat.not_lt_zero u), fun _ _ => rfl⟩ hPI4 v3 v4 q97 q45 ⟨v6, fun j _ q => absurd rfl q⟩ ?_
    intro gi5 B5 fr5 hC5 hP5 hPre5 hPI5 hS5
    rw [show (d + 7 - hoK (gi 64 0) t) + 6 + hoK (gi 64 0) t = d + 13 by omega]
    have e9 : gi5 0 0 9 = n32 v := by
      rw [fr5 0 0 9 rfl, c4 0 0 9 (by decide) (by decide), fr2 0 0 9 rfl, ho 0 0 9 (by omega) (by omega) (by omega), h9]
    have frA : Fr cgMod gi gi5 := fun s a j q => by
      have qq := cgMod_f q
      rw [cg_fl fr5 s a j q, c4 s a j (by omega) (by omega), cg_co fr2 s a j q, cg_P ho s a j q]
    simp (disch := omega) only [b_S_seekFillings_100, e_Filling_keepFor, b_Filling_keepFor_0, b_S_seekFillings_112, G_0_16 hG4, e9, n32_10, ax_psh_none, ax_psh_some, true_and, and_true, and_false, false_and, not_true_eq_false, not_false_eq_true, true_imp_iff, false_imp_iff, imp_self, or_true, true_or, or_false, false_or, and_self, ite_true, ite_false, if_true, if_false]
    have f6 : ∀ s a j, ¬ (s = 9 ∧ a = 0 ∧ (j = 2 ∨ j = 5)) → ax_wI (ax_wI gi5 9 0 2 (n32 t)) 9 0 5 (n32 v) s a j = gi5 s a j := fun s a j q => by rw [wI_at, if_neg (by omega), wI_at, if_neg (by omega)]
    have f62 : ax_wI (ax_wI gi5 9 0 2 (n32 t)) 9 0 5 (n32 v) 9 0 2 = n32 t := by rw [wI_at, if_neg (by omega), wI_self]
    have f65 : ax_wI (ax_wI gi5 9 0 2 (n32 t)) 9 0 5 (n32 v) 9 0 5 = n32 v := by rw [wI_self]
    have frw : Fr cgMod gi (ax_wI (ax_wI gi5 9 0 2 (n32 t)) 9 0 5 (n32 v)) := Fr_wI (Fr_wI frA rfl) rfl
    generalize ax_wI (ax_wI gi5 9 0 2 (n32 t)) 9 0 5 (n32 v) = gi6 at *
    have hF6 : FillC gi6 (gi 64 0) Ls t P sum := ⟨(f6 9 0 7 (by omega)).trans ((fr5 9 0 7 rfl).trans q97), fun i hi => (f6 45 0 i (by omega)).trans ((fr5 45 0 i rfl).trans (q45 i hi).1), FillS_of hS5 (f6 9 0 6 (by omega)) (fun j => f6 46 0 j (by omega))⟩
    refine hq gi6 g4 (s + 1) frw (GF_trans gf2 gf4) (fun u hu => PaperInv_of (hPI5 u hu) (fun j => f6 3 u j (by omega)) (fun a j => f6 59 a j (by omega))) (Nat.le_refl _) (Stamps_of hC5.2.2.2.1 (f6 7 0 4 (by omega)) (fun j => f6 39 0 j (by omega))) ⟨Or.inr ⟨v, Nat.le_refl _, f65⟩, fun _ => ⟨t, P, sum, ?_, hP, hsum, f62, ?_, ?_, ?_⟩⟩ hF6
    · rw [frw 64 0 796 rfl, k796, cl_n (by omega)]
      exact ht
    · rw [f6 9 0 3 (by omega), fr5 9 0 3 rfl, v3]
    · rw [f6 9 0 4 (by omega), fr5 9 0 4 rfl, v4]
    · rw [show gi6 64 0 = gi 64 0 from funext (fun j => frw 64 0 j rfl)]
      exact hF6
/-- not asked so -/
theorem c_seekFill_n {d nt v : Nat} {x y z : Int32} {gi : GI} {g : AG} {Ls : Nat → List PC} {Q : Option AV → AH → Prop} (hG : GOK g) (n6 : nt ≤ 6) (b1 : gi 1 0 1 = n32 nt) (k796 : gi 64 0 796 = n32 nt) (h9 : gi 0 0 9 = n32 v) (hSL : SL gi Ls v) (h : win x (n32 0) (n32 nt - n32 1) = n32 0 ∨ win y (n32 2) (n32 4) = n32 0 ∨ win z (n32 0) (n32 9999) = n32 0) : ax_call (d + 14) m_S_seekFillings [.inr (.inr (some (0, 0))), .inl x, .inl y, .inl z] (gi, g) Q = Q (some (.inl (n32 0))) (gi, g) := by
  rcases win_01 y (n32 2) (n32 4) with hy | hy
  · simp (disch := omega) only [e_S_seekFillings, b_S_seekFillings_0, b_S_seekFillings_6, b_S_seekFillings_20, c_S_within, hy, n32_add, n32_mul, n32_lt, n32_le, n32_eq, n32_clamp, n32_inT, n32_div, n32_rem, n32_m1, n32_m1', n32_m1lt, n32_ltm1, n32_10, n32_01, Nat.not_lt_zero, Nat.lt_irrefl, Nat.mul_zero, Nat.zero_mul, Nat.zero_add, Nat.add_zero, Nat.reduceEqDiff, Nat.one_ne_zero, Nat.zero_ne_one, ax_psh_none, ax_psh_some, true_and, and_true, and_false, false_and, not_true_eq_false, not_false_eq_true, true_imp_iff, false_imp_iff, imp_self, or_true, true_or, or_false, false_or, and_self, ite_true, ite_false, if_true, if_false]
  · rcases win_01 z (n32 0) (n32 9999) with hz | hz
    · simp (disch := omega) only [e_S_seekFillings, b_S_seekFillings_0, b_S_seekFillings_6, b_S_seekFillings_9, b_S_seekFillings_17, b_S_seekFillings_20, c_S_within, hy, hz, n32_add, n32_mul, n32_lt, n32_le, n32_eq, n32_clamp, n32_inT, n32_div, n32_rem, n32_m1, n32_m1', n32_m1lt, n32_ltm1, n32_10, n32_01, Nat.not_lt_zero, Nat.lt_irrefl, Nat.mul_zero, Nat.zero_mul, Nat.zero_add, Nat.add_zero, Nat.reduceEqDiff, Nat.one_ne_zero, Nat.zero_ne_one, ax_psh_none, ax_psh_some, true_and, and_true, and_false, false_and, not_true_eq_false, not_false_eq_true, true_imp_iff, false_imp_iff, imp_self, or_true, true_or, or_false, false_or, and_self, ite_true, ite_false, if_true, if_false]
    · have hx : win x (n32 0) (n32 nt - n32 1) = n32 0 := by
        rcases h with h | h | h
        · exact h
        · rw [hy, n32_10] at h
          exact h.elim
        · rw [hz, n32_10] at h
          exact h.elim
      have hno : ¬ (gi 9 0 2 = x ∧ gi 9 0 3 = y ∧ gi 9 0 4 = z ∧ gi 9 0 5 = n32 v) := by
        intro q
        obtain ⟨t', P', sum', a1, a2, a3, a4, a5, a6, a7⟩ := hSL.2 q.2.2.2
        rw [k796, cl_n (by omega)] at a1
        exact win_subout (by omega) hx t' a1 (q.1.symm.trans a4)
      simp (disch := omega) only [e_S_seekFillings, b_S_seekFillings_0, b_S_seekFillings_6, b_S_seekFillings_9, b_S_seekFillings_17, b_S_seekFillings_22, c_S_within, hy, hz, c_lisOf, h9, hno, decide_false, G_0_0 hG, G_0_1 hG, G_0_2 hG, G_0_3 hG, G_0_7 hG, G_0_10 hG, G_0_12 hG, G_0_13 hG, G_0_14 hG, G_0_15 hG, G_0_16 hG, G_0_17 hG, G_1_0 hG, G_1_2 hG, G_1_5 hG, G_2_4 hG, G_2_5 hG, G_3_5 hG, G_3_6 hG, G_3_7 hG, G_3_8 hG, G_3_9 hG, G_5_0 hG, G_5_1 hG, G_6_0 hG, G_6_1 hG, G_6_2 hG, G_6_9 hG, G_6_10 hG, G_6_11 hG, G_6_12 hG, G_6_13 hG, G_7_0 hG, G_7_5 hG, G_8_8 hG, G_8_9 hG, G_9_8 hG, G_9_9 hG, G_10_7 hG, G_10_8 hG, G_10_9 hG, G_10_10 hG, G_10_11 hG, G_11_0 hG, G_12_2 hG, G_12_3 hG, G_12_4 hG, G_12_5 hG, G_12_7 hG, G_12_8 hG, G_12_9 hG, G_12_12 hG, G_12_13 hG, G_12_14 hG, G_12_22 hG, G_12_23 hG, G_12_29 hG, G_12_30 hG, G_12_31 hG, G_12_37 hG, G_12_38 hG, G_12_39 hG, G_12_40 hG, G_12_41 hG, G_12_43 hG, G_12_46 hG, G_12_47 hG, G_12_48 hG, G_25 hG, G_26 hG, G_47 hG, G_58 hG, n32_add, n32_mul, n32_lt, n32_le, n32_eq, n32_clamp, n32_inT, n32_div, n32_rem, n32_m1, n32_m1', n32_m1lt, n32_ltm1, n32_10, n32_01, Nat.not_lt_zero, Nat.lt_irrefl, Nat.mul_zero, Nat.zero_mul, Nat.zero_add, Nat.add_zero, Nat.reduceEqDiff, Nat.one_ne_zero, Nat.zero_ne_one, ax_psh_none, ax_psh_some, true_and, and_true, and_false, false_and, not_true_eq_false, not_false_eq_true, true_imp_iff, false_imp_iff, imp_self, or_true, true_or, or_false, false_or, and_self, ite_true, ite_false, if_true, if_false]
      simp (disch := omega) only [b_S_seekFillings_36, b_S_seekFillings_41, b_S_seekFillings_46a, b_S_seekFillings_53, b32, Bool.false_eq_true, c_paperOf_n (d + 8) _ _ _ hG b1 hx, n32_add, n32_mul, n32_lt, n32_le, n32_eq, n32_clamp, n32_inT, n32_div, n32_rem, n32_m1, n32_m1', n32_m1lt, n32_ltm1, n32_10, n32_01, Nat.not_lt_zero, Nat.lt_irrefl, Nat.mul_zero, Nat.zero_mul, Nat.zero_add, Nat.add_zero, Nat.reduceEqDiff, Nat.one_ne_zero, Nat.zero_ne_one, ax_psh_none, ax_psh_some, true_and, and_true, and_false, false_and, not_true_eq_false, not_false_eq_true, true_imp_iff, false_imp_iff, imp_self, or_true, true_or, or_false, false_or, and_self, ite_true, ite_false, if_true, if_false]
theorem c_areParts (d : Nat) (gi : GI) (g : AG) (Q : Option AV → AH → Prop) (y z : Int32) : ax_call (d + 2) m_M_areParts [.inl y, .inl z] (gi, g) Q = Q (some (.inl (if win y (n32 2) (n32 4) = n32 0 ∨ win z (n32 0) (n32 9999) = n32 0 then n32 0 else n32 1))) (gi, g) := by
  rcases win_01 y (n32 2) (n32 4) with hy | hy
  · simp only [e_M_areParts, b_M_areParts_0, b_M_areParts_6, b_M_areParts_9, b_M_areParts_17, b_M_areParts_20, b_M_areParts_24, b_M_areParts_25, c_M_lies, hy, ax_psh_none, ax_psh_some, true_and, and_true, and_false, false_and, not_true_eq_false, not_false_eq_true, true_imp_iff, false_imp_iff, imp_self, or_true, true_or, or_false, false_or, and_self, ite_true, ite_false, if_true, if_false]
  · rcases win_01 z (n32 0) (n32 9999) with hz | hz
    · simp only [e_M_areParts, b_M_areParts_0, b_M_areParts_6, b_M_areParts_9, b_M_areParts_17, b_M_areParts_20, b_M_areParts_24, b_M_areParts_25, c_M_lies, hy, hz, n32_10, ax_psh_none, ax_psh_some, true_and, and_true, and_false, false_and, not_true_eq_false, not_false_eq_true, true_imp_iff, false_imp_iff, imp_self, or_true, true_or, or_false, false_or, and_self, ite_true, ite_false, if_true, if_false]
    · simp only [e_M_areParts, b_M_areParts_0, b_M_areParts_6, b_M_areParts_9, b_M_areParts_17, b_M_areParts_20, b_M_areParts_24, b_M_areParts_25, c_M_lies, hy, hz, n32_10, ax_psh_none, ax_psh_some, true_and, and_true, and_false, false_and, not_true_eq_false, not_false_eq_true, true_imp_iff, false_imp_iff, imp_self, or_true, true_or, or_false, false_or, and_self, ite_true, ite_false, if_true, if_false]
theorem op_fills {D n v : Nat} {x y z : Int32} {gi : GI} {g : AG} {Ls : Nat → List PC} {Q : Option AV → Option AV → AH → Prop} (hD : 70 ≤ D) (hn : n < 520) (hC : Core n gi g Ls) (h9 : gi 0 0 9 = n32 v) (hv : v ≤ 1000) (hSL : SL gi Ls v)
    (hQ : ∀ r gi' g', Core (n + 1) gi' g' Ls → (∀ s a j, s = 0 ∨ s = 64 ∨ s = 8 ∨ s = 10 ∨ s = 43 ∨ s = 44 ∨ (47 ≤ s ∧ s ≤ 52) ∨ s = 77 ∨ (s = 12 ∧ (j < 15 ∨ (32 ≤ j ∧ j ≤ 36))) → gi' s a j = gi s a j) → SL gi' Ls v → Q (some (.inl r)) (some (.inl r)) (gi', g')) :
    ax_call D m_S_fills [.inr (.inr (some (0, 0))), .inl x, .inl y, .inl z] (gi, g) (fun r h => ax_call D m_M_fills [.inr (.inr (some (12, 0))), .inl x, .inl y, .inl z] h (fun r' h' => Q r r' h')) := by
  obtain ⟨d, rfl⟩ : ∃ d2, D = d2 + 50 := ⟨D - 50, by omega⟩
  obtain ⟨nt, m, s, hB, hG, b1, n6, hTh, hPI, hs2, hs, k796⟩ := ask_of hC
  have same : Q (some (.inl (-1))) (some (.inl (-1))) (gi, g) := hQ _ gi g (Core_same hC).1 (fun _ _ _ _ => rfl) hSL
  have bad : (win x (n32 0) (n32 nt - n32 1) = n32 0 ∨ win y (n32 2) (n32 4) = n32 0 ∨ win z (n32 0) (n32 9999) = n32 0) → ax_call (d + 50) m_S_fills [.inr (.inr (some (0, 0))), .inl x, .inl y, .inl z] (gi, g) (fun r h => ax_call (d + 50) m_M_fills [.inr (.inr (some (12, 0))), .inl x, .inl y, .inl z] h (fun r' h' => Q r r' h')) := by
    intro h
    rw [e_S_fills, b_S_fills_0, c_seekFill_n (d := d + 35) hG n6 b1 k796 h9 hSL h]
    simp (disch := omega) only [b_S_fills_7, b_S_fills_20, b_S_fills_21, n32_add, n32_mul, n32_lt, n32_le, n32_eq, n32_clamp, n32_inT, n32_div, n32_rem, n32_m1, n32_m1', n32_m1lt, n32_ltm1, n32_10, n32_01, Nat.not_lt_zero, Nat.lt_irrefl, Nat.mul_zero, Nat.zero_mul, Nat.zero_add, Nat.add_zero, Nat.reduceEqDiff, Nat.one_ne_zero, Nat.zero_ne_one, ax_psh_none, ax_psh_some, true_and, and_true, and_false, false_and, not_true_eq_false, not_false_eq_true, true_imp_iff, false_imp_iff, imp_self, or_true, true_or, or_false, false_or, and_self, ite_true, ite_false, if_true, if_false]
    rcases win_01 x (n32 0) (n32 nt - n32 1) with hx | hx
    · simp (disch := omega) only [e_M_fills, b_M_fills_0, b_M_fills_5, b_M_fills_26, b_M_fills_27, c_M_isThing _ _ _ _ hG, k796, hx, n32_add, n32_mul, n32_lt, n32_le, n32_eq, n32_clamp, n32_inT, n32_div, n32_rem, n32_m1, n32_m1', n32_m1lt, n32_ltm1, n32_10, n32_01, Nat.not_lt_zero, Nat.lt_irrefl, Nat.mul_zero, Nat.zero_mul, Nat.zero_add, Nat.add_zero, Nat.reduceEqDiff, Nat.one_ne_zero, Nat.zero_ne_one, ax_psh_none, ax_psh_some, true_and, and_true, and_false, false_and, not_true_eq_false, not_false_eq_true, true_imp_iff, false_imp_iff, imp_self, or_true, true_or, or_false, false_or, and_self, ite_true, ite_false, if_true, if_false]
      exact same
    · have h' : win y (n32 2) (n32 4) = n32 0 ∨ win z (n32 0) (n32 9999) = n32 0 := by
        rcases h with h | h
        · rw [hx, n32_10] at h
          exact h.elim
        · exact h
      simp (disch := omega) only [e_M_fills, b_M_fills_0, b_M_fills_5, b_M_fills_8, b_M_fills_13, b_M_fills_26, b_M_fills_27, c_M_isThing _ _ _ _ hG, k796, hx, c_areParts, if_pos h', n32_add, n32_mul, n32_lt, n32_le, n32_eq, n32_clamp, n32_inT, n32_div, n32_rem, n32_m1, n32_m1', n32_m1lt, n32_ltm1, n32_10, n32_01, Nat.not_lt_zero, Nat.lt_irrefl, Nat.mul_zero, Nat.zero_mul, Nat.zero_add, Nat.add_zero, Nat.reduceEqDiff, Nat.one_ne_zero, Nat.zero_ne_one, ax_psh_none, ax_psh_some, true_and, and_true, and_false, false_and, not_true_eq_false, not_false_eq_true, true_imp_iff, false_imp_iff, imp_self, or_true, true_or, or_false, false_or, and_self, ite_true, ite_false, if_true, if_false]
      exact same
  rcases win_cases x nt (by omega) with ⟨t, ht, rfl⟩ | hx
  · rcases win_cases2 y 2 4 (by omega) (by omega) with ⟨P, hP1, hP2, rfl⟩ | hy
    · rcases win_cases2 z 0 9999 (by omega) (by omega) with ⟨sum, -, hsum, rfl⟩ | hz
      · rw [e_S_fills, b_S_fills_0]
        refine c_seekFill (d := d + 35) hB hPI hs (by omega) ht ⟨hP1, hP2⟩ hsum h9 hv hSL ?_
        intro gi1 g1 s' fr1 gf1 hPI1 hs' hS1 hSL1 hF1
        have hG1 := gf1.2.1
        have e64 : gi1 64 0 = gi 64 0 := funext (fun j => fr1 64 0 j rfl)
        have hB1 : BK gi1 g1 Ls nt m (gi1 64 0) := by
          rw [e64]
          obtain ⟨-, -, q3, q4, q5⟩ := hB
          exact ⟨e64, hG1, BooksN_of q3 (fun j _ _ => rfl) (fun s j q => by rcases q with rfl | rfl <;> exact fr1 _ _ _ rfl), ThingsR_of q4 q3.1 (fun j _ => rfl) (fun s a j q => by rcases q with rfl | rfl | rfl <;> exact fr1 _ _ _ rfl), LawsR_of q5 q3.2.1 (fun j _ _ => rfl) (fun s a j q => by rcases q with rfl | rfl | rfl | rfl <;> exact fr1 _ _ _ rfl) gf1⟩
        have k1 : gi1 64 0 796 = n32 nt := (fr1 64 0 796 rfl).trans k796
        have e96 : gi1 9 0 6 = n32 (lCK (gi 64 0) Ls t P sum).length := hF1.2.2.1
        have hpp : ¬ (win (n32 P) (n32 2) (n32 4) = n32 0 ∨ win (n32 sum) (n32 0) (n32 9999) = n32 0) := by
          rw [win_yes hP1 hP2 (by omega), win_yes (Nat.zero_le _) hsum (by omega), n32_10]
          simp
        simp (disch := omega) only [b_S_fills_7, b_S_fills_10, b_S_fills_21, G_0_16 hG1, e96, n32_add, n32_mul, n32_lt, n32_le, n32_eq, n32_clamp, n32_inT, n32_div, n32_rem, n32_m1, n32_m1', n32_m1lt, n32_ltm1, n32_10, n32_01, Nat.not_lt_zero, Nat.lt_irrefl, Nat.mul_zero, Nat.zero_mul, Nat.zero_add, Nat.add_zero, Nat.reduceEqDiff, Nat.one_ne_zero, Nat.zero_ne_one, ax_psh_none, ax_psh_some, true_and, and_true, and_false, false_and, not_true_eq_false, not_false_eq_true, true_imp_iff, false_imp_iff, imp_self, or_true, true_or, or_false, false_or, and_self, ite_true, ite_false, if_true, if_false]
        rw [e_M_fills]
        simp (disch := omega) only [b_M_fills_0, b_M_fills_5, b_M_fills_8, b_M_fills_13, b_M_fills_16, c_M_isThing _ _ _ _ hG1, k1, win_sT ht (by omega), c_areParts, if_neg hpp, n32_add, n32_mul, n32_lt, n32_le, n32_eq, n32_clamp, n32_inT, n32_div, n32_rem, n32_m1, n32_m1', n32_m1lt, n32_ltm1, n32_10, n32_01, Nat.not_lt_zero, Nat.lt_irrefl, Nat.mul_zero, Nat.zero_mul, Nat.zero_add, Nat.add_zero, Nat.reduceEqDiff, Nat.one_ne_zero, Nat.zero_ne_one, ax_psh_none, ax_psh_some, true_and, and_true, and_false, false_and, not_true_eq_false, not_false_eq_true, true_imp_iff, false_imp_iff, imp_self, or_true, true_or, or_false, false_or, and_self, ite_true, ite_false, if_true, if_false]
        refine c_M_fillings (d := d + 1) hB1 ht ⟨hP1, hP2⟩ hsum ?_
        intro gi2 fr2 h78 hSm
        rw [e64] at hSm ⊢
        simp only [b_M_fills_23, b_M_fills_27, ax_psh_none, ax_psh_some, true_and, and_true, and_false, false_and, not_true_eq_false, not_false_eq_true, true_imp_iff, false_imp_iff, imp_self, or_true, true_or, or_false, false_or, and_self, ite_true, ite_false, if_true, if_false]
        have el : (lMK (gi 64 0) Ls t P sum).length = (lCK (gi 64 0) Ls t P sum).length := (lCM_len soK_dep _).symm
        rw [el]
        refine hQ _ gi2 g1 (Core_s hC (fun s a j q => ?_) gf1 (fun u hu => PaperInv_of (hPI1 u hu) (fun j => fr2 3 u j rfl) (fun a j => fr2 59 a j rfl)) ⟨s', by omega, Stamps_of hS1 (fr2 7 0 4 rfl) (fun j => fr2 39 0 j rfl)⟩) (fun s a j q => ?_) (SL_of hSL1 (fun j => fr2 9 0 j rfl) (fun j => fr2 45 0 j rfl) (fun j => fr2 46 0 j rfl) (fun j => fr2 64 0 j rfl))
        · rw [fr2 s a j (mlMod_no (by omega)), fr1 s a j (cgMod_no (by omega))]
        · rw [fr2 s a j (mlMod_no (by omega)), fr1 s a j (cgMod_no (by omega))]
      · exact bad (Or.inr (Or.inr hz))
    · exact bad (Or.inr (Or.inl hy))
  · exact bad (Or.inl hx)
theorem c_sureAt {d cell : Nat} {K : Nat → Int32} {Ls : Nat → List PC} {t P sum : Nat} {gi : GI} {g : AG} {Q : Option AV → AH → Prop} (hG : GOK g) (hH : hoK K t ≤ 6) (hcm : ∀ i, i < hoK K t → hcK K t i < 64) (hcell : cell < 64) (hlen : (lCK K Ls t P sum).length < 1000000) (hF : FillC gi K Ls t P sum) (v : Int32)
    (hv1 : ∀ i, i < hoK K t → hcK K t i = cell → v = if lCK K Ls t P sum = [] then -1 else gi 46 0 i) (hv2 : (∀ i, i < hoK K t → hcK K t i ≠ cell) → v = -1) :
    ax_call (d + 1) m_Filling_sureAt [.inr (.inr (some (9, 0))), .inl (n32 cell)] (gi, g) Q = Q (some (.inl v)) (gi, g) := by
  have key := loop_up (n := hoK K t) (P := fun i => (∀ k, k < i → hcK K t k ≠ cell) → Runs d (m_Filling_sureAt, 2, [some (.inr (.inr (some (9, 0)))), some (.inl (n32 cell)), some (.inl (n32 i))], []) (gi, g) Q = Q (some (.inl v)) (gi, g)) ?_ ?_
  · rw [e_Filling_sureAt, b_Filling_sureAt_0]
    exact key 0 (Nat.zero_le _) (fun k hk => absurd hk (Nat.not_lt_zero k))
  · intro i hi ih hne
    have e45 := hF.2.1 i hi
    have h64 := hcm i hi
    have e6 := hF.2.2.1
    rw [b_Filling_sureAt_2]
    by_cases z : hcK K t i = cell
    · have hv := hv1 i hi z
      by_cases hn : lCK K Ls t P sum = []
      · rw [if_pos hn] at hv
        rw [hn] at e6
        simp (disch := omega) only [b_Filling_sureAt_10, b_Filling_sureAt_20, b_Filling_sureAt_36, b_Filling_sureAt_37, hF.1, hi, e45, z, e6, hv, List.length_nil, G_0_0 hG, G_0_1 hG, G_0_2 hG, G_0_3 hG, G_0_7 hG, G_0_10 hG, G_0_12 hG, G_0_13 hG, G_0_14 hG, G_0_15 hG, G_0_16 hG, G_0_17 hG, G_1_0 hG, G_1_2 hG, G_1_5 hG, G_2_4 hG, G_2_5 hG, G_3_5 hG, G_3_6 hG, G_3_7 hG, G_3_8 hG, G_3_9 hG, G_5_0 hG, G_5_1 hG, G_6_0 hG, G_6_1 hG, G_6_2 hG, G_6_9 hG, G_6_10 hG, G_6_11 hG, G_6_12 hG, G_6_13 hG, G_7_0 hG, G_7_5 hG, G_8_8 hG, G_8_9 hG, G_9_8 hG, G_9_9 hG, G_10_7 hG, G_10_8 hG, G_10_9 hG, G_10_10 hG, G_10_11 hG, G_11_0 hG, G_12_2 hG, G_12_3 hG, G_12_4 hG, G_12_5 hG, G_12_7 hG, G_12_8 hG, G_12_9 hG, G_12_12 hG, G_12_13 hG, G_12_14 hG, G_12_22 hG, G_12_23 hG, G_12_29 hG, G_12_30 hG, G_12_31 hG, G_12_37 hG, G_12_38 hG, G_12_39 hG, G_12_40 hG, G_12_41 hG, G_12_43 hG, G_12_46 hG, G_12_47 hG, G_12_48 hG, G_25 hG, G_26 hG, G_47 hG, G_58 hG, n32_add, n32_mul, n32_lt, n32_le, n32_eq, n32_clamp, n32_inT, n32_div, n32_rem, n32_m1, n32_m1', n32_m1lt, n32_ltm1, n32_10, n32_01, Nat.not_lt_zero, Nat.lt_irrefl, Nat.mul_zero, Nat.zero_mul, Nat.zero_add, Nat.add_zero, Nat.reduceEqDiff, Nat.one_ne_zero, Nat.zero_ne_one, ax_psh_none, ax_psh_some, true_and, and_true, and_false, false_and, not_true_eq_false, not_false_eq_true, true_imp_iff, false_imp_iff, imp_self, or_true, true_or, or_false, false_or, and_self, ite_true, ite_false, if_true, if_false]
      · rw [if_neg hn] at hv
        have hpos : 0 < (lCK K Ls t P sum).length := List.length_pos_iff.mpr hn
        simp (disch := omega) only [b_Filling_sureAt_10, b_Filling_sureAt_20, b_Filling_sureAt_27, b_Filling_sureAt_37, hF.1, hi, e45, z, e6, hpos, hv, G_0_0 hG, G_0_1 hG, G_0_2 hG, G_0_3 hG, G_0_7 hG, G_0_10 hG, G_0_12 hG, G_0_13 hG, G_0_14 hG, G_0_15 hG, G_0_16 hG, G_0_17 hG, G_1_0 hG, G_1_2 hG, G_1_5 hG, G_2_4 hG, G_2_5 hG, G_3_5 hG, G_3_6 hG, G_3_7 hG, G_3_8 hG, G_3_9 hG, G_5_0 hG, G_5_1 hG, G_6_0 hG, G_6_1 hG, G_6_2 hG, G_6_9 hG, G_6_10 hG, G_6_11 hG, G_6_12 hG, G_6_13 hG, G_7_0 hG, G_7_5 hG, G_8_8 hG, G_8_9 hG, G_9_8 hG, G_9_9 hG, G_10_7 hG, G_10_8 hG, G_10_9 hG, G_10_10 hG, G_10_11 hG, G_11_0 hG, G_12_2 hG, G_12_3 hG, G_12_4 hG, G_12_5 hG, G_12_7 hG, G_12_8 hG, G_12_9 hG, G_12_12 hG, G_12_13 hG, G_12_14 hG, G_12_22 hG, G_12_23 hG, G_12_29 hG, G_12_30 hG, G_12_31 hG, G_12_37 hG, G_12_38 hG, G_12_39 hG, G_12_40 hG, G_12_41 hG, G_12_43 hG, G_12_46 hG, G_12_47 hG, G_12_48 hG, G_25 hG, G_26 hG, G_47 hG, G_58 hG, n32_add, n32_mul, n32_lt, n32_le, n32_eq, n32_clamp, n32_inT, n32_div, n32_rem, n32_m1, n32_m1', n32_m1lt, n32_ltm1, n32_10, n32_01, Nat.not_lt_zero, Nat.lt_irrefl, Nat.mul_zero, Nat.zero_mul, Nat.zero_add, Nat.add_zero, Nat.reduceEqDiff, Nat.one_ne_zero, Nat.zero_ne_one, ax_psh_none, ax_psh_some, true_and, and_true, and_false, false_and, not_true_eq_false, not_false_eq_true, true_imp_iff, false_imp_iff, imp_self, or_true, true_or, or_false, false_or, and_self, ite_true, ite_false, if_true, if_false]
    · simp (disch := omega) only [b_Filling_sureAt_10, b_Filling_sureAt_38, hF.1, hi, e45, z, G_0_0 hG, G_0_1 hG, G_0_2 hG, G_0_3 hG, G_0_7 hG, G_0_10 hG, G_0_12 hG, G_0_13 hG, G_0_14 hG, G_0_15 hG, G_0_16 hG, G_0_17 hG, G_1_0 hG, G_1_2 hG, G_1_5 hG, G_2_4 hG, G_2_5 hG, G_3_5 hG, G_3_6 hG, G_3_7 hG, G_3_8 hG, G_3_9 hG, G_5_0 hG, G_5_1 hG, G_6_0 hG, G_6_1 hG, G_6_2 hG, G_6_9 hG, G_6_10 hG, G_6_11 hG, G_6_12 hG, G_6_13 hG, G_7_0 hG, G_7_5 hG, G_8_8 hG, G_8_9 hG, G_9_8 hG, G_9_9 hG, G_10_7 hG, G_10_8 hG, G_10_9 hG, G_10_10 hG, G_10_11 hG, G_11_0 hG, G_12_2 hG, G_12_3 hG, G_12_4 hG, G_12_5 hG, G_12_7 hG, G_12_8 hG, G_12_9 hG, G_12_12 hG, G_12_13 hG, G_12_14 hG, G_12_22 hG, G_12_23 hG, G_12_29 hG, G_12_30 hG, G_12_31 hG, G_12_37 hG, G_12_38 hG, G_12_39 hG, G_12_40 hG, G_12_41 hG, G_12_43 hG, G_12_46 hG, G_12_47 hG, G_12_48 hG, G_25 hG, G_26 hG, G_47 hG, G_58 hG, n32_add, n32_mul, n32_lt, n32_le, n32_eq, n32_clamp, n32_inT, n32_div, n32_rem, n32_m1, n32_m1', n32_m1lt, n32_ltm1, n32_10, n32_01, Nat.not_lt_zero, Nat.lt_irrefl, Nat.mul_zero, Nat.zero_mul, Nat.zero_add, Nat.add_zero, Nat.reduceEqDiff, Nat.one_ne_zero, Nat.zero_ne_one, ax_psh_none, ax_psh_some, true_and, and_true, and_false, false_and, not_true_eq_false, not_false_eq_true, true_imp_iff, false_imp_iff, imp_self, or_true, true_or, or_false, false_or, and_self, ite_true, ite_false, if_true, if_false]
      exact ih (fun k hk => by
        by_cases q : k = i
        · rw [q]
          exact z
        · exact hne k (by omega))
  · intro hne
    rw [b_Filling_sureAt_2, hv2 hne]
    simp (disch := omega) only [b_Filling_sureAt_44, hF.1, G_0_0 hG, G_0_1 hG, G_0_2 hG, G_0_3 hG, G_0_7 hG, G_0_10 hG, G_0_12 hG, G_0_13 hG, G_0_14 hG, G_0_15 hG, G_0_16 hG, G_0_17 hG, G_1_0 hG, G_1_2 hG, G_1_5 hG, G_2_4 hG, G_2_5 hG, G_3_5 hG, G_3_6 hG, G_3_7 hG, G_3_8 hG, G_3_9 hG, G_5_0 hG, G_5_1 hG, G_6_0 hG, G_6_1 hG, G_6_2 hG, G_6_9 hG, G_6_10 hG, G_6_11 hG, G_6_12 hG, G_6_13 hG, G_7_0 hG, G_7_5 hG, G_8_8 hG, G_8_9 hG, G_9_8 hG, G_9_9 hG, G_10_7 hG, G_10_8 hG, G_10_9 hG, G_10_10 hG, G_10_11 hG, G_11_0 hG, G_12_2 hG, G_12_3 hG, G_12_4 hG, G_12_5 hG, G_12_7 hG, G_12_8 hG, G_12_9 hG, G_12_12 hG, G_12_13 hG, G_12_14 hG, G_12_22 hG, G_12_23 hG, G_12_29 hG, G_12_30 hG, G_12_31 hG, G_12_37 hG, G_12_38 hG, G_12_39 hG, G_12_40 hG, G_12_41 hG, G_12_43 hG, G_12_46 hG, G_12_47 hG, G_12_48 hG, G_25 hG, G_26 hG, G_47 hG, G_58 hG, n32_add, n32_mul, n32_lt, n32_le, n32_eq, n32_clamp, n32_inT, n32_div, n32_rem, n32_m1, n32_m1', n32_m1lt, n32_ltm1, n32_10, n32_01, Nat.not_lt_zero, Nat.lt_irrefl, Nat.mul_zero, Nat.zero_mul, Nat.zero_add, Nat.add_zero, Nat.reduceEqDiff, Nat.one_ne_zero, Nat.zero_ne_one, ax_psh_none, ax_psh_some, true_and, and_true, and_false, false_and, not_true_eq_false, not_false_eq_true, true_imp_iff, false_imp_iff, imp_self, or_true, true_or, or_false, false_or, and_self, ite_true, ite_false, if_true, if_false]
