/-! thing, paint, hole, terms, force, place -/
theorem wI_ne {gi : GI} {s s' : Nat} (h : s' ≠ s) (a j : Nat) (v : Int32) (a' j' : Nat) : ax_wI gi s a j v s' a' j' = gi s' a' j' := by
  rw [wI_at, if_neg (fun z => h z.1)]
theorem rowF_ne {gi : GI} {s s' : Nat} (h : s' ≠ s) (a n : Nat) (f : Nat → Int32) (a' j' : Nat) : rowF gi s a n f s' a' j' = gi s' a' j' := by
  rw [rowF_at, if_neg (fun z => h z.1)]
theorem win_m1c (x : Int32) {b : Nat} (hb : b < 2147483648) : (win x (-1) (n32 b) = n32 1 ∧ (x = -1 ∨ ∃ k, k ≤ b ∧ x = n32 k)) ∨ win x (-1) (n32 b) = n32 0 := by
  rcases win_01 x (-1) (n32 b) with h | h
  · exact Or.inr h
  · refine Or.inl ⟨h, ?_⟩
    have hne : ¬ win x (-1) (n32 b) = n32 0 := by
      rw [h, n32_10]
      exact id
    rw [win_ne] at hne
    by_cases hx : x < n32 0
    · left
      have h1 := hne.1
      rw [Int32.le_iff_toInt_le] at h1
      rw [Int32.lt_iff_toInt_lt] at hx
      have e0 : (n32 0).toInt = 0 := by decide
      have e1 : (-1 : Int32).toInt = -1 := by decide
      exact Int32.toInt_inj.mp (by omega)
    · right
      obtain ⟨k, hk, rfl⟩ := n32_of hx
      have h2 := hne.2
      rw [n32_le hk hb] at h2
      exact ⟨k, h2, rfl⟩
/-! paint -/
theorem c_S_paint (d : Nat) {gi : GI} {g : AG} {Q : Option AV → AH → Prop} (hG : GOK g) {t nt W T O p a c : Nat} {b : Nat → Nat} (b1 : gi 1 0 1 = n32 nt) (n6 : nt ≤ 6) (ht : t < nt) (hc : ThC gi t W T O b) (hp : p ≤ 9) (ha : a < W) (hcc : c < T) : ax_call (d + 5) m_S_paint [.inr (.inr (some (0, 0))), .inl (n32 t), .inl (n32 a), .inl (n32 c), .inl (n32 p)] (gi, g) Q = Q (some (.inl (n32 (b (c * W + a))))) (donC (ax_wI gi 29 t (c * W + a) (n32 p)), g) := by
  have h64 := wt64 hc.2.2.2.1.2 hc.2.2.2.2.1.2
  have hlt := xy_lt ha hcc
  have e1 := (hc.2.2.2.2.2 _ (by omega : c * W + a < 64)).1
  simp (disch := omega) only [e_S_paint, b_S_paint_0, b_S_paint_8, b_S_paint_11, b_S_paint_16, b_S_paint_17, b_S_paint_25a, b_S_paint_25b, b_S_paint_32, b_S_paint_38, b_S_paint_39, b_S_paint_49, b_S_paint_57, b_S_paint_62, b_S_paint_63, b_S_paint_89, c_S_within, win_T, c_Books_thingAt _ _ _ _ hG b1 n6 ht, c_Books_cellOf _ _ _ _ hG b1 n6 ht hc.1 hc.2.1 hc.2.2.2.1.2 hc.2.2.2.2.1.2 ha hcc, c_S_done, e1, G_0_0 hG, G_0_1 hG, G_0_2 hG, G_0_3 hG, G_0_7 hG, G_0_10 hG, G_0_12 hG, G_0_13 hG, G_0_14 hG, G_0_15 hG, G_0_16 hG, G_0_17 hG, G_1_0 hG, G_1_2 hG, G_1_5 hG, G_2_4 hG, G_2_5 hG, G_3_5 hG, G_3_6 hG, G_3_7 hG, G_3_8 hG, G_3_9 hG, G_5_0 hG, G_5_1 hG, G_6_0 hG, G_6_1 hG, G_6_2 hG, G_6_9 hG, G_6_10 hG, G_6_11 hG, G_6_12 hG, G_6_13 hG, G_7_0 hG, G_7_5 hG, G_8_8 hG, G_8_9 hG, G_9_8 hG, G_9_9 hG, G_10_7 hG, G_10_8 hG, G_10_9 hG, G_10_10 hG, G_10_11 hG, G_11_0 hG, G_12_2 hG, G_12_3 hG, G_12_4 hG, G_12_5 hG, G_12_7 hG, G_12_8 hG, G_12_9 hG, G_12_12 hG, G_12_13 hG, G_12_14 hG, G_12_22 hG, G_12_23 hG, G_12_29 hG, G_12_30 hG, G_12_31 hG, G_12_37 hG, G_12_38 hG, G_12_39 hG, G_12_40 hG, G_12_41 hG, G_12_43 hG, G_12_46 hG, G_12_47 hG, G_12_48 hG, G_25 hG, G_26 hG, G_47 hG, G_58 hG, n32_add, n32_mul, n32_lt, n32_le, n32_eq, n32_clamp, n32_inT, n32_div, n32_rem, n32_m1, n32_m1', n32_m1lt, n32_ltm1, n32_10, n32_01, Nat.not_lt_zero, Nat.lt_irrefl, Nat.mul_zero, Nat.zero_mul, Nat.zero_add, Nat.add_zero, Nat.reduceEqDiff, Nat.one_ne_zero, Nat.zero_ne_one, ax_psh_none, ax_psh_some, true_and, and_true, and_false, false_and, not_true_eq_false, not_false_eq_true, true_imp_iff, false_imp_iff, imp_self, or_true, true_or, or_false, false_or, and_self, ite_true, ite_false, if_true, if_false]
theorem c_M_paint (d : Nat) {gi : GI} {g : AG} {Q : Option AV → AH → Prop} (hG : GOK g) {t nt W T O p a c : Nat} {b : Nat → Nat} (k796 : gi 64 0 796 = n32 nt) (n6 : nt ≤ 6) (ht : t < nt) (hm : ThM gi t W T O b) (hp : p ≤ 9) (ha : a < W) (hcc : c < T) : ax_call (d + 5) m_M_paint [.inr (.inr (some (12, 0))), .inl (n32 t), .inl (n32 a), .inl (n32 c), .inl (n32 p)] (gi, g) Q = Q (some (.inl (n32 (b (c * W + a))))) (donM (ax_wI gi 64 0 (132 * t + 4 + (c * W + a)) (n32 p)), g) := by
  have h64 := wt64 hm.2.2.2.1.2 hm.2.2.2.2.1.2
  have hlt := xy_lt ha hcc
  have e1 := (hm.2.2.2.2.2 _ (by omega : c * W + a < 64)).1
  rw [show 132 * t + (4 + (c * W + a)) = 132 * t + 4 + (c * W + a) by omega] at e1
  simp (disch := omega) only [e_M_paint, b_M_paint_0, b_M_paint_8, b_M_paint_11, b_M_paint_16, b_M_paint_17, b_M_paint_22, b_M_paint_25, b_M_paint_31, b_M_paint_32, b_M_paint_39, b_M_paint_42, b_M_paint_47, b_M_paint_48, b_M_paint_62, b_M_paint_89, c_M_lies, win_T, c_M_isThing _ _ _ _ hG, k796, win_sT ht (by omega), c_M_isCell _ _ _ _ hG (by omega : t < 6) hm.1 hm.2.1 hm.2.2.2.1.2 hm.2.2.2.2.1.2 ha hcc, c_M_cellOf _ _ _ _ hG (by omega : t < 6) hm.1, c_M_good, e1, G_0_0 hG, G_0_1 hG, G_0_2 hG, G_0_3 hG, G_0_7 hG, G_0_10 hG, G_0_12 hG, G_0_13 hG, G_0_14 hG, G_0_15 hG, G_0_16 hG, G_0_17 hG, G_1_0 hG, G_1_2 hG, G_1_5 hG, G_2_4 hG, G_2_5 hG, G_3_5 hG, G_3_6 hG, G_3_7 hG, G_3_8 hG, G_3_9 hG, G_5_0 hG, G_5_1 hG, G_6_0 hG, G_6_1 hG, G_6_2 hG, G_6_9 hG, G_6_10 hG, G_6_11 hG, G_6_12 hG, G_6_13 hG, G_7_0 hG, G_7_5 hG, G_8_8 hG, G_8_9 hG, G_9_8 hG, G_9_9 hG, G_10_7 hG, G_10_8 hG, G_10_9 hG, G_10_10 hG, G_10_11 hG, G_11_0 hG, G_12_2 hG, G_12_3 hG, G_12_4 hG, G_12_5 hG, G_12_7 hG, G_12_8 hG, G_12_9 hG, G_12_12 hG, G_12_13 hG, G_12_14 hG, G_12_22 hG, G_12_23 hG, G_12_29 hG, G_12_30 hG, G_12_31 hG, G_12_37 hG, G_12_38 hG, G_12_39 hG, G_12_40 hG, G_12_41 hG, G_12_43 hG, G_12_46 hG, G_12_47 hG, G_12_48 hG, G_25 hG, G_26 hG, G_47 hG, G_58 hG, n32_add, n32_mul, n32_lt, n32_le, n32_eq, n32_clamp, n32_inT, n32_div, n32_rem, n32_m1, n32_m1', n32_m1lt, n32_ltm1, n32_10, n32_01, Nat.not_lt_zero, Nat.lt_irrefl, Nat.mul_zero, Nat.zero_mul, Nat.zero_add, Nat.add_zero, Nat.reduceEqDiff, Nat.one_ne_zero, Nat.zero_ne_one, ax_psh_none, ax_psh_some, true_and, and_true, and_false, false_and, not_true_eq_false, not_false_eq_true, true_imp_iff, false_imp_iff, imp_self, or_true, true_or, or_false, false_or, and_self, ite_true, ite_false, if_true, if_false]
theorem op_paint (x y z p : Int32) : Op m_S_paint m_M_paint [.inl x, .inl y, .inl z, .inl p] := by
  intro D n gi g Ls Q hD hn hC hQ
  obtain ⟨d, rfl⟩ : ∃ d2, D = d2 + 5 := ⟨D - 5, by omega⟩
  have hG := hC.1.1
  obtain ⟨nt, m, hN, hTh, hLw⟩ := hC.2.1
  have hN0 := hN
  obtain ⟨n6, m6, k796, k797, b1, b3, b4, hfo, hte, hte2⟩ := hN
  rcases win_cases2 p 0 9 (by omega) (by omega) with ⟨pp, -, hp9, rfl⟩ | hp
  · rcases win_cases x nt (by omega) with ⟨t, ht, rfl⟩ | hw
    · obtain ⟨W, T, O, b, h, pl, hv⟩ := thing_v hTh ht
      obtain ⟨hok, hsm⟩ := ThOK_v hv
      obtain ⟨hc, hm, hO, hpl, hpl2, hh, hs⟩ := hv
      have h64 := wt64 hc.2.2.2.1.2 hc.2.2.2.2.1.2
      rcases xy_cases y z W T hc.2.2.2.1.2 hc.2.2.2.2.1.2 with ⟨a, c, ha, hcc, rfl, rfl⟩ | hxy
      · have hlt := xy_lt ha hcc
        have e64 : ∀ j, donC (ax_wI gi 29 t (c * W + a) (n32 pp)) 64 0 j = gi 64 0 j := fun j => by
          rw [donC_ne (by decide), wI_ne (by decide)]
        rw [c_S_paint d hG b1 n6 ht hc hp9 ha hcc, c_M_paint d hG ((e64 796).trans k796) n6 ht (ThM_fr hm e64) hp9 ha hcc]
        refine don_endK (Ls' := Ls) hC hQ (FrK_wI (FrK_refl _) (by omega)) (FrK_wI (FrK_refl _) (by omega)) ?_ _
        generalize hcl : c * W + a = cc at *
        have f64 : ∀ j, ax_wI (donC (ax_wI gi 29 t cc (n32 pp))) 64 0 (132 * t + 4 + cc) (n32 pp) 64 0 j = if j = 132 * t + 4 + cc then n32 pp else gi 64 0 j := fun j => by
          rw [wI_at]
          by_cases q : j = 132 * t + 4 + cc
          · rw [if_pos ⟨rfl, rfl, q⟩, if_pos q]
          · rw [if_neg (by omega), if_neg q, e64]
        have f29 : ∀ a' j, ax_wI (donC (ax_wI gi 29 t cc (n32 pp))) 64 0 (132 * t + 4 + cc) (n32 pp) 29 a' j = if a' = t ∧ j = cc then n32 pp else gi 29 a' j := fun a' j => by
          rw [wI_ne (by decide), donC_ne (by decide), wI_at]
          by_cases q : a' = t ∧ j = cc
          · rw [if_pos ⟨rfl, q⟩, if_pos q]
          · rw [if_neg (by omega), if_neg q]
        have fo : ∀ s a' j, s ≠ 0 → s ≠ 64 → s ≠ 29 → ax_wI (donC (ax_wI gi 29 t cc (n32 pp))) 64 0 (132 * t + 4 + cc) (n32 pp) s a' j = gi s a' j := fun s a' j q1 q2 q3 => by
          rw [wI_ne q2, donC_ne q1, wI_ne q3]
        generalize ax_wI (donC (ax_wI gi 29 t cc (n32 pp))) 64 0 (132 * t + 4 + cc) (n32 pp) = gi2 at *
        refine Books_thing (t := t) (W := W) (T := T) (O := O) (b := updB b cc pp) (h := h) hG hN0 hTh hLw (fun j q1 q2 => by rw [f64, if_neg (by omega)]) ht (fun s a' j q => ?_) ?_ ?_
        · by_cases q29 : s = 29
          · subst q29
            rw [f29, if_neg (by omega)]
          · exact fo s a' j (by omega) (by omega) q29
        · obtain ⟨o1, o2, o3, o4, o5, o6, o7, o8, o9⟩ := hok
          refine ⟨by rw [f64, if_neg (by omega), o1], by rw [f64, if_neg (by omega), o2], by rw [f64, if_neg (by omega), o3], o4, o5, o6, by rw [f64, if_neg (by omega)]; exact o7, fun c' hc' => ⟨?_, ?_⟩, o9⟩
          · rw [f64]
            by_cases q : c' = cc
            · rw [if_pos (by omega), q, updB_self]
              exact ⟨rfl, by omega⟩
            · rw [if_neg (by omega), updB_ne q]
              exact (o8 c' hc').1
          · rw [f64, if_neg (by omega)]
            exact (o8 c' hc').2
        · refine ⟨fun i hi => ?_, fun c' hc' => ⟨?_, ?_⟩⟩
          · rw [fo 2 t i (by decide) (by decide) (by decide), f64, if_neg (by omega)]
            exact hsm.1 i hi
          · rw [f29, f64]
            by_cases q : c' = cc
            · rw [if_pos ⟨rfl, q⟩, if_pos (by omega)]
            · rw [if_neg (by omega), if_neg (by omega)]
              exact (hsm.2 c' hc').1
          · rw [fo 30 t c' (by decide) (by decide) (by decide), f64, if_neg (by omega)]
            exact (hsm.2 c' hc').2
      · have e64 : ∀ j, refC gi (-1) 0 64 0 j = gi 64 0 j := fun j => refC_ne (by decide) (by decide) 0 j
        have hm1 := ThM_fr hm e64
        simp (disch := omega) only [e_S_paint, b_S_paint_0, b_S_paint_8, b_S_paint_11, b_S_paint_16, b_S_paint_17, b_S_paint_25a, b_S_paint_25b, b_S_paint_32, b_S_paint_38, b_S_paint_39, b_S_paint_49, b_S_paint_57, b_S_paint_62, b_S_paint_63, b_S_paint_89, e_M_paint, b_M_paint_0, b_M_paint_8, b_M_paint_11, b_M_paint_16, b_M_paint_17, b_M_paint_22, b_M_paint_25, b_M_paint_31, b_M_paint_32, b_M_paint_39, b_M_paint_42, b_M_paint_47, b_M_paint_48, b_M_paint_62, b_M_paint_89, c_S_within, c_M_lies, win_T, c_Books_thingAt _ _ _ _ hG b1 n6 ht, c_Books_cellOf_n _ _ _ _ hG b1 n6 ht hc.1 hc.2.1 hxy, c_S_refuse0 _ _ _ _ hG, c_M_isThing _ _ _ _ hG, e64, k796, win_sT ht (by omega), c_M_isCell_n _ _ _ _ hG (by omega : t < 6) hm1.1 hm1.2.1 hxy, c_M_refuses0 _ _ _ _ hG, G_0_0 hG, G_0_1 hG, G_0_2 hG, G_0_3 hG, G_0_7 hG, G_0_10 hG, G_0_12 hG, G_0_13 hG, G_0_14 hG, G_0_15 hG, G_0_16 hG, G_0_17 hG, G_1_0 hG, G_1_2 hG, G_1_5 hG, G_2_4 hG, G_2_5 hG, G_3_5 hG, G_3_6 hG, G_3_7 hG, G_3_8 hG, G_3_9 hG, G_5_0 hG, G_5_1 hG, G_6_0 hG, G_6_1 hG, G_6_2 hG, G_6_9 hG, G_6_10 hG, G_6_11 hG, G_6_12 hG, G_6_13 hG, G_7_0 hG, G_7_5 hG, G_8_8 hG, G_8_9 hG, G_9_8 hG, G_9_9 hG, G_10_7 hG, G_10_8 hG, G_10_9 hG, G_10_10 hG, G_10_11 hG, G_11_0 hG, G_12_2 hG, G_12_3 hG, G_12_4 hG, G_12_5 hG, G_12_7 hG, G_12_8 hG, G_12_9 hG, G_12_12 hG, G_12_13 hG, G_12_14 hG, G_12_22 hG, G_12_23 hG, G_12_29 hG, G_12_30 hG, G_12_31 hG, G_12_37 hG, G_12_38 hG, G_12_39 hG, G_12_40 hG, G_12_41 hG, G_12_43 hG, G_12_46 hG, G_12_47 hG, G_12_48 hG, G_25 hG, G_26 hG, G_47 hG, G_58 hG, n32_add, n32_mul, n32_lt, n32_le, n32_eq, n32_clamp, n32_inT, n32_div, n32_rem, n32_m1, n32_m1', n32_m1lt, n32_ltm1, n32_10, n32_01, Nat.not_lt_zero, Nat.lt_irrefl, Nat.mul_zero, Nat.zero_mul, Nat.zero_add, Nat.add_zero, Nat.reduceEqDiff, Nat.one_ne_zero, Nat.zero_ne_one, ax_psh_none, ax_psh_some, true_and, and_true, and_false, false_and, not_true_eq_false, not_false_eq_true, true_imp_iff, false_imp_iff, imp_self, or_true, true_or, or_false, false_or, and_self, ite_true, ite_false, if_true, if_false]
        exact ref_end0 hC hQ (by omega)
    · have e64 : ∀ j, refC gi (-2) 1 64 0 j = gi 64 0 j := fun j => refC_ne (by decide) (by decide) 0 j
      simp (disch := omega) only [e_S_paint, b_S_paint_0, b_S_paint_8, b_S_paint_11, b_S_paint_16, b_S_paint_17, b_S_paint_25a, b_S_paint_25b, b_S_paint_32, b_S_paint_38, b_S_paint_39, b_S_paint_49, b_S_paint_57, b_S_paint_62, b_S_paint_63, b_S_paint_89, e_M_paint, b_M_paint_0, b_M_paint_8, b_M_paint_11, b_M_paint_16, b_M_paint_17, b_M_paint_22, b_M_paint_25, b_M_paint_31, b_M_paint_32, b_M_paint_39, b_M_paint_42, b_M_paint_47, b_M_paint_48, b_M_paint_62, b_M_paint_89, c_S_within, c_M_lies, win_T, c_Books_thingAt_n _ _ _ _ hG b1 hw, c_S_refuse1 _ _ _ _ hG, c_M_isThing _ _ _ _ hG, e64, k796, hw, c_M_refuses1 _ _ _ _ hG, G_0_0 hG, G_0_1 hG, G_0_2 hG, G_0_3 hG, G_0_7 hG, G_0_10 hG, G_0_12 hG, G_0_13 hG, G_0_14 hG, G_0_15 hG, G_0_16 hG, G_0_17 hG, G_1_0 hG, G_1_2 hG, G_1_5 hG, G_2_4 hG, G_2_5 hG, G_3_5 hG, G_3_6 hG, G_3_7 hG, G_3_8 hG, G_3_9 hG, G_5_0 hG, G_5_1 hG, G_6_0 hG, G_6_1 hG, G_6_2 hG, G_6_9 hG, G_6_10 hG, G_6_11 hG, G_6_12 hG, G_6_13 hG, G_7_0 hG, G_7_5 hG, G_8_8 hG, G_8_9 hG, G_9_8 hG, G_9_9 hG, G_10_7 hG, G_10_8 hG, G_10_9 hG, G_10_10 hG, G_10_11 hG, G_11_0 hG, G_12_2 hG, G_12_3 hG, G_12_4 hG, G_12_5 hG, G_12_7 hG, G_12_8 hG, G_12_9 hG, G_12_12 hG, G_12_13 hG, G_12_14 hG, G_12_22 hG, G_12_23 hG, G_12_29 hG, G_12_30 hG, G_12_31 hG, G_12_37 hG, G_12_38 hG, G_12_39 hG, G_12_40 hG, G_12_41 hG, G_12_43 hG, G_12_46 hG, G_12_47 hG, G_12_48 hG, G_25 hG, G_26 hG, G_47 hG, G_58 hG, n32_add, n32_mul, n32_lt, n32_le, n32_eq, n32_clamp, n32_inT, n32_div, n32_rem, n32_m1, n32_m1', n32_m1lt, n32_ltm1, n32_10, n32_01, Nat.not_lt_zero, Nat.lt_irrefl, Nat.mul_zero, Nat.zero_mul, Nat.zero_add, Nat.add_zero, Nat.reduceEqDiff, Nat.one_ne_zero, Nat.zero_ne_one, ax_psh_none, ax_psh_some, true_and, and_true, and_false, false_and, not_true_eq_false, not_false_eq_true, true_imp_iff, false_imp_iff, imp_self, or_true, true_or, or_false, false_or, and_self, ite_true, ite_false, if_true, if_false]
      exact ref_end0 hC hQ (by omega)
  · simp (disch := omega) only [e_S_paint, b_S_paint_0, b_S_paint_8, b_S_paint_11, b_S_paint_16, b_S_paint_17, b_S_paint_25a, b_S_paint_25b, b_S_paint_32, b_S_paint_38, b_S_paint_39, b_S_paint_49, b_S_paint_57, b_S_paint_62, b_S_paint_63, b_S_paint_89, e_M_paint, b_M_paint_0, b_M_paint_8, b_M_paint_11, b_M_paint_16, b_M_paint_17, b_M_paint_22, b_M_paint_25, b_M_paint_31, b_M_paint_32, b_M_paint_39, b_M_paint_42, b_M_paint_47, b_M_paint_48, b_M_paint_62, b_M_paint_89, c_S_within, c_M_lies, hp, c_S_refuse0 _ _ _ _ hG, c_M_refuses0 _ _ _ _ hG, G_0_0 hG, G_0_1 hG, G_0_2 hG, G_0_3 hG, G_0_7 hG, G_0_10 hG, G_0_12 hG, G_0_13 hG, G_0_14 hG, G_0_15 hG, G_0_16 hG, G_0_17 hG, G_1_0 hG, G_1_2 hG, G_1_5 hG, G_2_4 hG, G_2_5 hG, G_3_5 hG, G_3_6 hG, G_3_7 hG, G_3_8 hG, G_3_9 hG, G_5_0 hG, G_5_1 hG, G_6_0 hG, G_6_1 hG, G_6_2 hG, G_6_9 hG, G_6_10 hG, G_6_11 hG, G_6_12 hG, G_6_13 hG, G_7_0 hG, G_7_5 hG, G_8_8 hG, G_8_9 hG, G_9_8 hG, G_9_9 hG, G_10_7 hG, G_10_8 hG, G_10_9 hG, G_10_10 hG, G_10_11 hG, G_11_0 hG, G_12_2 hG, G_12_3 hG, G_12_4 hG, G_12_5 hG, G_12_7 hG, G_12_8 hG, G_12_9 hG, G_12_12 hG, G_12_13 hG, G_12_14 hG, G_12_22 hG, G_12_23 hG, G_12_29 hG, G_12_30 hG, G_12_31 hG, G_12_37 hG, G_12_38 hG, G_12_39 hG, G_12_40 hG, G_12_41 hG, G_12_43 hG, G_12_46 hG, G_12_47 hG, G_12_48 hG, G_25 hG, G_26 hG, G_47 hG, G_58 hG, n32_add, n32_mul, n32_lt, n32_le, n32_eq, n32_clamp, n32_inT, n32_div, n32_rem, n32_m1, n32_m1', n32_m1lt, n32_ltm1, n32_10, n32_01, Nat.not_lt_zero, Nat.lt_irrefl, Nat.mul_zero, Nat.zero_mul, Nat.zero_add, Nat.add_zero, Nat.reduceEqDiff, Nat.one_ne_zero, Nat.zero_ne_one, ax_psh_none, ax_psh_some, true_and, and_true, and_false, false_and, not_true_eq_false, not_false_eq_true, true_imp_iff, false_imp_iff, imp_self, or_true, true_or, or_false, false_or, and_self, ite_true, ite_false, if_true, if_false]
    exact ref_end0 hC hQ (by omega)
/-! hole -/
theorem c_S_hole (d : Nat) {gi : GI} {g : AG} {Q : Option AV → AH → Prop} (hG : GOK g) {t nt W T O p a c : Nat} {b h : Nat → Nat} (b1 : gi 1 0 1 = n32 nt) (n6 : nt ≤ 6) (ht : t < nt) (hc : ThC gi t W T O b) (hh : ∀ c, c < 64 → gi 30 t c = n32 (h c)) (h1 : ∀ c, c < 64 → h c ≤ 1) (hp : p ≤ 1) (ha : a < W) (hcc : c < T) : ax_call (d + 5) m_S_hole [.inr (.inr (some (0, 0))), .inl (n32 t), .inl (n32 a), .inl (n32 c), .inl (n32 p)] (gi, g) Q = if h (c * W + a) < p ∧ 6 ≤ sumN h (W * T) then Q (some (.inl (-5))) (refC gi (-5) 3, g) else Q (some (.inl (n32 (h (c * W + a))))) (donC (ax_wI gi 30 t (c * W + a) (n32 p)), g) := by
  have h64 := wt64 hc.2.2.2.1.2 hc.2.2.2.2.1.2
  have hlt := xy_lt ha hcc
  have e1 := hh _ (by omega : c * W + a < 64)
  have e2 := h1 _ (by omega : c * W + a < 64)
  have hsl : sumN h (W * T) ≤ W * T * 1 := sumN_le (fun i hi => h1 i (by omega))
  by_cases q1 : h (c * W + a) < p
  · by_cases q2 : 6 ≤ sumN h (W * T)
    · rw [if_pos ⟨q1, q2⟩]
      have q3 : ¬ sumN h (W * T) < 6 := by omega
      simp (disch := omega) only [e_S_hole, b_S_hole_0, b_S_hole_7, b_S_hole_10, b_S_hole_15, b_S_hole_16, b_S_hole_24a, b_S_hole_24b, b_S_hole_31, b_S_hole_37, b_S_hole_38, b_S_hole_48, b_S_hole_56, b_S_hole_61, b_S_hole_62, b_S_hole_79, b_S_hole_84, b_S_hole_89, b_S_hole_95, b_S_hole_96, b_S_hole_112, c_S_within, win_T, c_Books_thingAt _ _ _ _ hG b1 n6 ht, c_Books_cellOf _ _ _ _ hG b1 n6 ht hc.1 hc.2.1 hc.2.2.2.1.2 hc.2.2.2.2.1.2 ha hcc, c_Thing_holeCount _ _ _ _ hG hc.1 hc.2.1 hc.2.2.2.1.2 hc.2.2.2.2.1.2 hh, c_S_refuse3 _ _ _ _ hG, e1, q1, q3, G_0_0 hG, G_0_1 hG, G_0_2 hG, G_0_3 hG, G_0_7 hG, G_0_10 hG, G_0_12 hG, G_0_13 hG, G_0_14 hG, G_0_15 hG, G_0_16 hG, G_0_17 hG, G_1_0 hG, G_1_2 hG, G_1_5 hG, G_2_4 hG, G_2_5 hG, G_3_5 hG, G_3_6 hG, G_3_7 hG, G_3_8 hG, G_3_9 hG, G_5_0 hG, G_5_1 hG, G_6_0 hG, G_6_1 hG, G_6_2 hG, G_6_9 hG, G_6_10 hG, G_6_11 hG, G_6_12 hG, G_6_13 hG, G_7_0 hG, G_7_5 hG, G_8_8 hG, G_8_9 hG, G_9_8 hG, G_9_9 hG, G_10_7 hG, G_10_8 hG, G_10_9 hG, G_10_10 hG, G_10_11 hG, G_11_0 hG, G_12_2 hG, G_12_3 hG, G_12_4 hG, G_12_5 hG, G_12_7 hG, G_12_8 hG, G_12_9 hG, G_12_12 hG, G_12_13 hG, G_12_14 hG, G_12_22 hG, G_12_23 hG, G_12_29 hG, G_12_30 hG, G_12_31 hG, G_12_37 hG, G_12_38 hG, G_12_39 hG, G_12_40 hG, G_12_41 hG, G_12_43 hG, G_12_46 hG, G_12_47 hG, G_12_48 hG, G_25 hG, G_26 hG, G_47 hG, G_58 hG, n32_add, n32_mul, n32_lt, n32_le, n32_eq, n32_clamp, n32_inT, n32_div, n32_rem, n32_m1, n32_m1', n32_m1lt, n32_ltm1, n32_10, n32_01, Nat.not_lt_zero, Nat.lt_irrefl, Nat.mul_zero, Nat.zero_mul, Nat.zero_add, Nat.add_zero, Nat.reduceEqDiff, Nat.one_ne_zero, Nat.zero_ne_one, ax_psh_none, ax_psh_some, true_and, and_true, and_false, false_and, not_true_eq_false, not_false_eq_true, true_imp_iff, false_imp_iff, imp_self, or_true, true_or, or_false, false_or, and_self, ite_true, ite_false, if_true, if_false]
    · rw [if_neg (by omega)]
      have q3 : sumN h (W * T) < 6 := by omega
      simp (disch := omega) only [e_S_hole, b_S_hole_0, b_S_hole_7, b_S_hole_10, b_S_hole_15, b_S_hole_16, b_S_hole_24a, b_S_hole_24b, b_S_hole_31, b_S_hole_37, b_S_hole_38, b_S_hole_48, b_S_hole_56, b_S_hole_61, b_S_hole_62, b_S_hole_79, b_S_hole_84, b_S_hole_89, b_S_hole_95, b_S_hole_96, b_S_hole_112, c_S_within, win_T, c_Books_thingAt _ _ _ _ hG b1 n6 ht, c_Books_cellOf _ _ _ _ hG b1 n6 ht hc.1 hc.2.1 hc.2.2.2.1.2 hc.2.2.2.2.1.2 ha hcc, c_Thing_holeCount _ _ _ _ hG hc.1 hc.2.1 hc.2.2.2.1.2 hc.2.2.2.2.1.2 hh, c_S_done, e1, q1, q3, G_0_0 hG, G_0_1 hG, G_0_2 hG, G_0_3 hG, G_0_7 hG, G_0_10 hG, G_0_12 hG, G_0_13 hG, G_0_14 hG, G_0_15 hG, G_0_16 hG, G_0_17 hG, G_1_0 hG, G_1_2 hG, G_1_5 hG, G_2_4 hG, G_2_5 hG, G_3_5 hG, G_3_6 hG, G_3_7 hG, G_3_8 hG, G_3_9 hG, G_5_0 hG, G_5_1 hG, G_6_0 hG, G_6_1 hG, G_6_2 hG, G_6_9 hG, G_6_10 hG, G_6_11 hG, G_6_12 hG, G_6_13 hG, G_7_0 hG, G_7_5 hG, G_8_8 hG, G_8_9 hG, G_9_8 hG, G_9_9 hG, G_10_7 hG, G_10_8 hG, G_10_9 hG, G_10_10 hG, G_10_11 hG, G_11_0 hG, G_12_2 hG, G_12_3 hG, G_12_4 hG, G_12_5 hG, G_12_7 hG, G_12_8 hG, G_12_9 hG, G_12_12 hG, G_12_13 hG, G_12_14 hG, G_12_22 hG, G_12_23 hG, G_12_29 hG, G_12_30 hG, G_12_31 hG, G_12_37 hG, G_12_38 hG, G_12_39 hG, G_12_40 hG, G_12_41 hG, G_12_43 hG, G_12_46 hG, G_12_47 hG, G_12_48 hG, G_25 hG, G_26 hG, G_47 hG, G_58 hG, n32_add, n32_mul, n32_lt, n32_le, n32_eq, n32_clamp, n32_inT, n32_div, n32_rem, n32_m1, n32_m1', n32_m1lt, n32_ltm1, n32_10, n32_01, Nat.not_lt_zero, Nat.lt_irrefl, Nat.mul_zero, Nat.zero_mul, Nat.zero_add, Nat.add_zero, Nat.reduceEqDiff, Nat.one_ne_zero, Nat.zero_ne_one, ax_psh_none, ax_psh_some, true_and, and_true, and_false, false_and, not_true_eq_false, not_false_eq_true, true_imp_iff, false_imp_iff, imp_self, or_true, true_or, or_false, false_or, and_self, ite_true, ite_false, if_true, if_false]
  · rw [if_neg (by omega)]
    simp (disch := omega) only [e_S_hole, b_S_hole_0, b_S_hole_7, b_S_hole_10, b_S_hole_15, b_S_hole_16, b_S_hole_24a, b_S_hole_24b, b_S_hole_31, b_S_hole_37, b_S_hole_38, b_S_hole_48, b_S_hole_56, b_S_hole_61, b_S_hole_62, b_S_hole_79, b_S_hole_84, b_S_hole_89, b_S_hole_95, b_S_hole_96, b_S_hole_112, c_S_within, win_T, c_Books_thingAt _ _ _ _ hG b1 n6 ht, c_Books_cellOf _ _ _ _ hG b1 n6 ht hc.1 hc.2.1 hc.2.2.2.1.2 hc.2.2.2.2.1.2 ha hcc, c_S_done, e1, q1, G_0_0 hG, G_0_1 hG, G_0_2 hG, G_0_3 hG, G_0_7 hG, G_0_10 hG, G_0_12 hG, G_0_13 hG, G_0_14 hG, G_0_15 hG, G_0_16 hG, G_0_17 hG, G_1_0 hG, G_1_2 hG, G_1_5 hG, G_2_4 hG, G_2_5 hG, G_3_5 hG, G_3_6 hG, G_3_7 hG, G_3_8 hG, G_3_9 hG, G_5_0 hG, G_5_1 hG, G_6_0 hG, G_6_1 hG, G_6_2 hG, G_6_9 hG, G_6_10 hG, G_6_11 hG, G_6_12 hG, G_6_13 hG, G_7_0 hG, G_7_5 hG, G_8_8 hG, G_8_9 hG, G_9_8 hG, G_9_9 hG, G_10_7 hG, G_10_8 hG, G_10_9 hG, G_10_10 hG, G_10_11 hG, G_11_0 hG, G_12_2 hG, G_12_3 hG, G_12_4 hG, G_12_5 hG, G_12_7 hG, G_12_8 hG, G_12_9 hG, G_12_12 hG, G_12_13 hG, G_12_14 hG, G_12_22 hG, G_12_23 hG, G_12_29 hG, G_12_30 hG, G_12_31 hG, G_12_37 hG, G_12_38 hG, G_12_39 hG, G_12_40 hG, G_12_41 hG, G_12_43 hG, G_12_46 hG, G_12_47 hG, G_12_48 hG, G_25 hG, G_26 hG, G_47 hG, G_58 hG, n32_add, n32_mul, n32_lt, n32_le, n32_eq, n32_clamp, n32_inT, n32_div, n32_rem, n32_m1, n32_m1', n32_m1lt, n32_ltm1, n32_10, n32_01, Nat.not_lt_zero, Nat.lt_irrefl, Nat.mul_zero, Nat.zero_mul, Nat.zero_add, Nat.add_zero, Nat.reduceEqDiff, Nat.one_ne_zero, Nat.zero_ne_one, ax_psh_none, ax_psh_some, true_and, and_true, and_false, false_and, not_true_eq_false, not_false_eq_true, true_imp_iff, false_imp_iff, imp_self, or_true, true_or, or_false, false_or, and_self, ite_true, ite_false, if_true, if_false]
theorem c_M_hole (d : Nat) {gi : GI} {g : AG} {Q : Option AV → AH → Prop} (hG : GOK g) {t nt W T O p a c : Nat} {b h : Nat → Nat} (k796 : gi 64 0 796 = n32 nt) (n6 : nt ≤ 6) (ht : t < nt) (hm : ThM gi t W T O b) (hh : ∀ c, c < 64 → gi 64 0 (132 * t + (68 + c)) = n32 (h c)) (h1 : ∀ c, c < 64 → h c ≤ 1) (h6 : sumN h (W * T) ≤ 6) (hp : p ≤ 1) (ha : a < W) (hcc : c < T) : ax_call (d + 5) m_M_hole [.inr (.inr (some (12, 0))), .inl (n32 t), .inl (n32 a), .inl (n32 c), .inl (n32 p)] (gi, g) Q = if h (c * W + a) < p ∧ 6 ≤ sumN h (W * T) then Q (some (.inl (-5))) (refM gi (-5) 5, g) else Q (some (.inl (n32 (h (c * W + a))))) (donM (ax_wI gi 64 0 (132 * t + 68 + (c * W + a)) (n32 p)), g) := by
  have h64 := wt64 hm.2.2.2.1.2 hm.2.2.2.2.1.2
  have hlt := xy_lt ha hcc
  have e1 := hh _ (by omega : c * W + a < 64)
  have e2 := h1 _ (by omega : c * W + a < 64)
  rw [show 132 * t + (68 + (c * W + a)) = 132 * t + 68 + (c * W + a) by omega] at e1
  by_cases q1 : p = 1
  · by_cases q0 : h (c * W + a) = 0
    · by_cases q2 : sumN h (W * T) = 6
      · rw [if_pos (by omega)]
        simp (disch := omega) only [e_M_hole, b_M_hole_0, b_M_hole_7, b_M_hole_10, b_M_hole_15, b_M_hole_16, b_M_hole_21, b_M_hole_24, b_M_hole_30, b_M_hole_31, b_M_hole_38, b_M_hole_41, b_M_hole_46, b_M_hole_47, b_M_hole_62, b_M_hole_80, b_M_hole_85, b_M_hole_90, b_M_hole_95, b_M_hole_101, b_M_hole_102, b_M_hole_117, c_M_lies, win_T, c_M_isThing _ _ _ _ hG, k796, win_sT ht (by omega), c_M_isCell _ _ _ _ hG (by omega : t < 6) hm.1 hm.2.1 hm.2.2.2.1.2 hm.2.2.2.2.1.2 ha hcc, c_M_cellOf _ _ _ _ hG (by omega : t < 6) hm.1, c_M_holesOf _ _ _ _ hG (by omega : t < 6) hm.1 hm.2.1 hm.2.2.2.1.2 hm.2.2.2.2.1.2 hh, c_M_refuses3 _ _ _ _ hG, e1, q1, q0, q2, G_0_0 hG, G_0_1 hG, G_0_2 hG, G_0_3 hG, G_0_7 hG, G_0_10 hG, G_0_12 hG, G_0_13 hG, G_0_14 hG, G_0_15 hG, G_0_16 hG, G_0_17 hG, G_1_0 hG, G_1_2 hG, G_1_5 hG, G_2_4 hG, G_2_5 hG, G_3_5 hG, G_3_6 hG, G_3_7 hG, G_3_8 hG, G_3_9 hG, G_5_0 hG, G_5_1 hG, G_6_0 hG, G_6_1 hG, G_6_2 hG, G_6_9 hG, G_6_10 hG, G_6_11 hG, G_6_12 hG, G_6_13 hG, G_7_0 hG, G_7_5 hG, G_8_8 hG, G_8_9 hG, G_9_8 hG, G_9_9 hG, G_10_7 hG, G_10_8 hG, G_10_9 hG, G_10_10 hG, G_10_11 hG, G_11_0 hG, G_12_2 hG, G_12_3 hG, G_12_4 hG, G_12_5 hG, G_12_7 hG, G_12_8 hG, G_12_9 hG, G_12_12 hG, G_12_13 hG, G_12_14 hG, G_12_22 hG, G_12_23 hG, G_12_29 hG, G_12_30 hG, G_12_31 hG, G_12_37 hG, G_12_38 hG, G_12_39 hG, G_12_40 hG, G_12_41 hG, G_12_43 hG, G_12_46 hG, G_12_47 hG, G_12_48 hG, G_25 hG, G_26 hG, G_47 hG, G_58 hG, n32_add, n32_mul, n32_lt, n32_le, n32_eq, n32_clamp, n32_inT, n32_div, n32_rem, n32_m1, n32_m1', n32_m1lt, n32_ltm1, n32_10, n32_01, Nat.not_lt_zero, Nat.lt_irrefl, Nat.mul_zero, Nat.zero_mul, Nat.zero_add, Nat.add_zero, Nat.reduceEqDiff, Nat.one_ne_zero, Nat.zero_ne_one, ax_psh_none, ax_psh_some, true_and, and_true, and_false, false_and, not_true_eq_false, not_false_eq_true, true_imp_iff, false_imp_iff, imp_self, or_true, true_or, or_false, false_or, and_self, ite_true, ite_false, if_true, if_false]
      · rw [if_neg (by omega)]
        simp (disch := omega) only [e_M_hole, b_M_hole_0, b_M_hole_7, b_M_hole_10, b_M_hole_15, b_M_hole_16, b_M_hole_21, b_M_hole_24, b_M_hole_30, b_M_hole_31, b_M_hole_38, b_M_hole_41, b_M_hole_46, b_M_hole_47, b_M_hole_62, b_M_hole_80, b_M_hole_85, b_M_hole_90, b_M_hole_95, b_M_hole_101, b_M_hole_102, b_M_hole_117, c_M_lies, win_T, c_M_isThing _ _ _ _ hG, k796, win_sT ht (by omega), c_M_isCell _ _ _ _ hG (by omega : t < 6) hm.1 hm.2.1 hm.2.2.2.1.2 hm.2.2.2.2.1.2 ha hcc, c_M_cellOf _ _ _ _ hG (by omega : t < 6) hm.1, c_M_holesOf _ _ _ _ hG (by omega : t < 6) hm.1 hm.2.1 hm.2.2.2.1.2 hm.2.2.2.2.1.2 hh, c_M_good, e1, q1, q0, q2, G_0_0 hG, G_0_1 hG, G_0_2 hG, G_0_3 hG, G_0_7 hG, G_0_10 hG, G_0_12 hG, G_0_13 hG, G_0_14 hG, G_0_15 hG, G_0_16 hG, G_0_17 hG, G_1_0 hG, G_1_2 hG, G_1_5 hG, G_2_4 hG, G_2_5 hG, G_3_5 hG, G_3_6 hG, G_3_7 hG, G_3_8 hG, G_3_9 hG, G_5_0 hG, G_5_1 hG, G_6_0 hG, G_6_1 hG, G_6_2 hG, G_6_9 hG, G_6_10 hG, G_6_11 hG, G_6_12 hG, G_6_13 hG, G_7_0 hG, G_7_5 hG, G_8_8 hG, G_8_9 hG, G_9_8 hG, G_9_9 hG, G_10_7 hG, G_10_8 hG, G_10_9 hG, G_10_10 hG, G_10_11 hG, G_11_0 hG, G_12_2 hG, G_12_3 hG, G_12_4 hG, G_12_5 hG, G_12_7 hG, G_12_8 hG, G_12_9 hG, G_12_12 hG, G_12_13 hG, G_12_14 hG, G_12_22 hG, G_12_23 hG, G_12_29 hG, G_12_30 hG, G_12_31 hG, G_12_37 hG, G_12_38 hG, G_12_39 hG, G_12_40 hG, G_12_41 hG, G_12_43 hG, G_12_46 hG, G_12_47 hG, G_12_48 hG, G_25 hG, G_26 hG, G_47 hG, G_58 hG, n32_add, n32_mul, n32_lt, n32_le, n32_eq, n32_clamp, n32_inT, n32_div, n32_rem, n32_m1, n32_m1', n32_m1lt, n32_ltm1, n32_10, n32_01, Nat.not_lt_zero, Nat.lt_irrefl, Nat.mul_zero, Nat.zero_mul, Nat.zero_add, Nat.add_zero, Nat.reduceEqDiff, Nat.one_ne_zero, Nat.zero_ne_one, ax_psh_none, ax_psh_some, true_and, and_true, and_false, false_and, not_true_eq_false, not_false_eq_true, true_imp_iff, false_imp_iff, imp_self, or_true, true_or, or_false, false_or, and_self, ite_true, ite_false, if_true, if_false]
    · rw [if_neg (by omega)]
      simp (disch := omega) only [e_M_hole, b_M_hole_0, b_M_hole_7, b_M_hole_10, b_M_hole_15, b_M_hole_16, b_M_hole_21, b_M_hole_24, b_M_hole_30, b_M_hole_31, b_M_hole_38, b_M_hole_41, b_M_hole_46, b_M_hole_47, b_M_hole_62, b_M_hole_80, b_M_hole_85, b_M_hole_90, b_M_hole_95, b_M_hole_101, b_M_hole_102, b_M_hole_117, c_M_lies, win_T, c_M_isThing _ _ _ _ hG, k796, win_sT ht (by omega), c_M_isCell _ _ _ _ hG (by omega : t < 6) hm.1 hm.2.1 hm.2.2.2.1.2 hm.2.2.2.2.1.2 ha hcc, c_M_cellOf _ _ _ _ hG (by omega : t < 6) hm.1, c_M_good, e1, q1, q0, G_0_0 hG, G_0_1 hG, G_0_2 hG, G_0_3 hG, G_0_7 hG, G_0_10 hG, G_0_12 hG, G_0_13 hG, G_0_14 hG, G_0_15 hG, G_0_16 hG, G_0_17 hG, G_1_0 hG, G_1_2 hG, G_1_5 hG, G_2_4 hG, G_2_5 hG, G_3_5 hG, G_3_6 hG, G_3_7 hG, G_3_8 hG, G_3_9 hG, G_5_0 hG, G_5_1 hG, G_6_0 hG, G_6_1 hG, G_6_2 hG, G_6_9 hG, G_6_10 hG, G_6_11 hG, G_6_12 hG, G_6_13 hG, G_7_0 hG, G_7_5 hG, G_8_8 hG, G_8_9 hG, G_9_8 hG, G_9_9 hG, G_10_7 hG, G_10_8 hG, G_10_9 hG, G_10_10 hG, G_10_11 hG, G_11_0 hG, G_12_2 hG, G_12_3 hG, G_12_4 hG, G_12_5 hG, G_12_7 hG, G_12_8 hG, G_12_9 hG, G_12_12 hG, G_12_13 hG, G_12_14 hG, G_12_22 hG, G_12_23 hG, G_12_29 hG, G_12_30 hG, G_12_31 hG, G_12_37 hG, G_12_38 hG, G_12_39 hG, G_12_40 hG, G_12_41 hG, G_12_43 hG, G_12_46 hG, G_12_47 hG, G_12_48 hG, G_25 hG, G_26 hG, G_47 hG, G_58 hG, n32_add, n32_mul, n32_lt, n32_le, n32_eq, n32_clamp, n32_inT, n32_div, n32_rem, n32_m1, n32_m1', n32_m1lt, n32_ltm1, n32_10, n32_01, Nat.not_lt_zero, Nat.lt_irrefl, Nat.mul_zero, Nat.zero_mul, Nat.zero_add, Nat.add_zero, Nat.reduceEqDiff, Nat.one_ne_zero, Nat.zero_ne_one, ax_psh_none, ax_psh_some, true_and, and_true, and_false, false_and, not_true_eq_false, not_false_eq_true, true_imp_iff, false_imp_iff, imp_self, or_true, true_or, or_false, false_or, and_self, ite_true, ite_false, if_true, if_false]
  · rw [if_neg (by omega)]
    simp (disch := omega) only [e_M_hole, b_M_hole_0, b_M_hole_7, b_M_hole_10, b_M_hole_15, b_M_hole_16, b_M_hole_21, b_M_hole_24, b_M_hole_30, b_M_hole_31, b_M_hole_38, b_M_hole_41, b_M_hole_46, b_M_hole_47, b_M_hole_62, b_M_hole_80, b_M_hole_85, b_M_hole_90, b_M_hole_95, b_M_hole_101, b_M_hole_102, b_M_hole_117, c_M_lies, win_T, c_M_isThing _ _ _ _ hG, k796, win_sT ht (by omega), c_M_isCell _ _ _ _ hG (by omega : t < 6) hm.1 hm.2.1 hm.2.2.2.1.2 hm.2.2.2.2.1.2 ha hcc, c_M_cellOf _ _ _ _ hG (by omega : t < 6) hm.1, c_M_good, e1, q1, G_0_0 hG, G_0_1 hG, G_0_2 hG, G_0_3 hG, G_0_7 hG, G_0_10 hG, G_0_12 hG, G_0_13 hG, G_0_14 hG, G_0_15 hG, G_0_16 hG, G_0_17 hG, G_1_0 hG, G_1_2 hG, G_1_5 hG, G_2_4 hG, G_2_5 hG, G_3_5 hG, G_3_6 hG, G_3_7 hG, G_3_8 hG, G_3_9 hG, G_5_0 hG, G_5_1 hG, G_6_0 hG, G_6_1 hG, G_6_2 hG, G_6_9 hG, G_6_10 hG, G_6_11 hG, G_6_12 hG, G_6_13 hG, G_7_0 hG, G_7_5 hG, G_8_8 hG, G_8_9 hG, G_9_8 hG, G_9_9 hG, G_10_7 hG, G_10_8 hG, G_10_9 hG, G_10_10 hG, G_10_11 hG, G_11_0 hG, G_12_2 hG, G_12_3 hG, G_12_4 hG, G_12_5 hG, G_12_7 hG, G_12_8 hG, G_12_9 hG, G_12_12 hG, G_12_13 hG, G_12_14 hG, G_12_22 hG, G_12_23 hG, G_12_29 hG, G_12_30 hG, G_12_31 hG, G_12_37 hG, G_12_38 hG, G_12_39 hG, G_12_40 hG, G_12_41 hG, G_12_43 hG, G_12_46 hG, G_12_47 hG, G_12_48 hG, G_25 hG, G_26 hG, G_47 hG, G_58 hG, n32_add, n32_mul, n32_lt, n32_le, n32_eq, n32_clamp, n32_inT, n32_div, n32_rem, n32_m1, n32_m1', n32_m1lt, n32_ltm1, n32_10, n32_01, Nat.not_lt_zero, Nat.lt_irrefl, Nat.mul_zero, Nat.zero_mul, Nat.zero_add, Nat.add_zero, Nat.reduceEqDiff, Nat.one_ne_zero, Nat.zero_ne_one, ax_psh_none, ax_psh_some, true_and, and_true, and_false, false_and, not_true_eq_false, not_false_eq_true, true_imp_iff, false_imp_iff, imp_self, or_true, true_or, or_false, false_or, and_self, ite_true, ite_false, if_true, if_false]
theorem op_hole (x y z p : Int32) : Op m_S_hole m_M_hole [.inl x, .inl y, .inl z, .inl p] := by
  intro D n gi g Ls Q hD hn hC hQ
  obtain ⟨d, rfl⟩ : ∃ d2, D = d2 + 5 := ⟨D - 5, by omega⟩
  have hG := hC.1.1
  obtain ⟨nt, m, hN, hTh, hLw⟩ := hC.2.1
  have hN0 := hN
  obtain ⟨n6, m6, k796, k797, b1, b3, b4, hfo, hte, hte2⟩ := hN
  rcases win_cases2 p 0 1 (by omega) (by omega) with ⟨pp, -, hp9, rfl⟩ | hp
  · rcases win_cases x nt (by omega) with ⟨t, ht, rfl⟩ | hw
    · obtain ⟨W, T, O, b, h, pl, hv⟩ := thing_v hTh ht
      obtain ⟨hok, hsm⟩ := ThOK_v hv
      obtain ⟨hc, hm, hO, hpl, hpl2, hh, hs⟩ := hv
      have h64 := wt64 hc.2.2.2.1.2 hc.2.2.2.2.1.2
      rcases xy_cases y z W T hc.2.2.2.1.2 hc.2.2.2.2.1.2 with ⟨a, c, ha, hcc, rfl, rfl⟩ | hxy
      · have hlt := xy_lt ha hcc
        have hh1 : ∀ c, c < 64 → h c ≤ 1 := fun c hc' => (hh c hc').2.2
        rw [c_S_hole d hG b1 n6 ht hc (fun c hc' => (hh c hc').1) hh1 hp9 ha hcc]
        by_cases qr : h (c * W + a) < pp ∧ 6 ≤ sumN h (W * T)
        · have e64 : ∀ j, refC gi (-5) 3 64 0 j = gi 64 0 j := fun j => refC_ne (by decide) (by decide) 0 j
          rw [if_pos qr, c_M_hole d hG ((e64 796).trans k796) n6 ht (ThM_fr hm e64) (fun c hc' => (e64 _).trans (hh c hc').2.1) hh1 hs hp9 ha hcc, if_pos qr]
          exact ref_end0 hC hQ (by omega)
        · have e64 : ∀ j, donC (ax_wI gi 30 t (c * W + a) (n32 pp)) 64 0 j = gi 64 0 j := fun j => by
            rw [donC_ne (by decide), wI_ne (by decide)]
          rw [if_neg qr, c_M_hole d hG ((e64 796).trans k796) n6 ht (ThM_fr hm e64) (fun c hc' => (e64 _).trans (hh c hc').2.1) hh1 hs hp9 ha hcc, if_neg qr]
          refine don_endK (Ls' := Ls) hC hQ (FrK_wI (FrK_refl _) (by omega)) (FrK_wI (FrK_refl _) (by omega)) ?_ _
          have hlt2 : c * W + a < W * T := hlt
          generalize hcl : c * W + a = cc at *
          have f64 : ∀ j, ax_wI (donC (ax_wI gi 30 t cc (n32 pp))) 64 0 (132 * t + 68 + cc) (n32 pp) 64 0 j = if j = 132 * t + 68 + cc then n32 pp else gi 64 0 j := fun j => by
            rw [wI_at]
            by_cases q : j = 132 * t + 68 + cc
            · rw [if_pos ⟨rfl, rfl, q⟩, if_pos q]
            · rw [if_neg (by omega), if_neg q, e64]
          have f30 : ∀ a' j, ax_wI (donC (ax_wI gi 30 t cc (n32 pp))) 64 0 (132 * t + 68 + cc) (n32 pp) 30 a' j = if a' = t ∧ j = cc then n32 pp else gi 30 a' j := fun a' j => by
            rw [wI_ne (by decide), donC_ne (by decide), wI_at]
            by_cases q : a' = t ∧ j = cc
            · rw [if_pos ⟨rfl, q⟩, if_pos q]
            · rw [if_neg (by omega), if_neg q]
          have fo : ∀ s a' j, s ≠ 0 → s ≠ 64 → s ≠ 30 → ax_wI (donC (ax_wI gi 30 t cc (n32 pp))) 64 0 (132 * t + 68 + cc) (n32 pp) s a' j = gi s a' j := fun s a' j q1 q2 q3 => by
            rw [wI_ne q2, donC_ne q1, wI_ne q3]
          generalize ax_wI (donC (ax_wI gi 30 t cc (n32 pp))) 64 0 (132 * t + 68 + cc) (n32 pp) = gi2 at *
          refine Books_thing (t := t) (W := W) (T := T) (O := O) (b := b) (h := updB h cc pp) hG hN0 hTh hLw (fun j q1 q2 => by rw [f64, if_neg (by omega)]) ht (fun s a' j q => ?_) ?_ ?_
          · by_cases q29 : s = 30
            · subst q29
              rw [f30, if_neg (by omega)]
            · exact fo s a' j (by omega) (by omega) q29
          · obtain ⟨o1, o2, o3, o4, o5, o6, o7, o8, o9⟩ := hok
            refine ⟨by rw [f64, if_neg (by omega), o1], by rw [f64, if_neg (by omega), o2], by rw [f64, if_neg (by omega), o3], o4, o5, o6, by rw [f64, if_neg (by omega)]; exact o7, fun c' hc' => ⟨?_, ?_⟩, ?_⟩
            · rw [f64, if_neg (by omega)]
              exact (o8 c' hc').1
            · rw [f64]
              by_cases q : c' = cc
              · rw [if_pos (by omega), q, updB_self]
                exact ⟨rfl, by omega⟩
              · rw [if_neg (by omega), updB_ne q]
                exact (o8 c' hc').2
            · have hone := sumN_one (f := h) (g := updB h cc pp) hlt2 (fun k _ hk => updB_ne hk)
              rw [updB_self] at hone
              have := hh1 cc (by omega)
              omega
          · refine ⟨fun i hi => ?_, fun c' hc' => ⟨?_, ?_⟩⟩
            · rw [fo 2 t i (by decide) (by decide) (by decide), f64, if_neg (by omega)]
              exact hsm.1 i hi
            · rw [fo 29 t c' (by decide) (by decide) (by decide), f64, if_neg (by omega)]
              exact (hsm.2 c' hc').1
            · rw [f30, f64]
              by_cases q : c' = cc
              · rw [if_pos ⟨rfl, q⟩, if_pos (by omega)]
              · rw [if_neg (by omega), if_neg (by omega)]
                exact (hsm.2 c' hc').2
      · have e64 : ∀ j, refC gi (-1) 0 64 0 j = gi 64 0 j := fun j => refC_ne (by decide) (by decide) 0 j
        have hm1 := ThM_fr hm e64
        simp (disch := omega) only [e_S_hole, b_S_hole_0, b_S_hole_7, b_S_hole_10, b_S_hole_15, b_S_hole_16, b_S_hole_24a, b_S_hole_24b, b_S_hole_31, b_S_hole_37, b_S_hole_38, b_S_hole_48, b_S_hole_56, b_S_hole_61, b_S_hole_62, b_S_hole_79, b_S_hole_84, b_S_hole_89, b_S_hole_95, b_S_hole_96, b_S_hole_112, e_M_hole, b_M_hole_0, b_M_hole_7, b_M_hole_10, b_M_hole_15, b_M_hole_16, b_M_hole_21, b_M_hole_24, b_M_hole_30, b_M_hole_31, b_M_hole_38, b_M_hole_41, b_M_hole_46, b_M_hole_47, b_M_hole_62, b_M_hole_80, b_M_hole_85, b_M_hole_90, b_M_hole_95, b_M_hole_101, b_M_hole_102, b_M_hole_117, c_S_within, c_M_lies, win_T, c_Books_thingAt _ _ _ _ hG b1 n6 ht, c_Books_cellOf_n _ _ _ _ hG b1 n6 ht hc.1 hc.2.1 hxy, c_S_refuse0 _ _ _ _ hG, c_M_isThing _ _ _ _ hG, e64, k796, win_sT ht (by omega), c_M_isCell_n _ _ _ _ hG (by omega : t < 6) hm1.1 hm1.2.1 hxy, c_M_refuses0 _ _ _ _ hG, G_0_0 hG, G_0_1 hG, G_0_2 hG, G_0_3 hG, G_0_7 hG, G_0_10 hG, G_0_12 hG, G_0_13 hG, G_0_14 hG, G_0_15 hG, G_0_16 hG, G_0_17 hG, G_1_0 hG, G_1_2 hG, G_1_5 hG, G_2_4 hG, G_2_5 hG, G_3_5 hG, G_3_6 hG, G_3_7 hG, G_3_8 hG, G_3_9 hG, G_5_0 hG, G_5_1 hG, G_6_0 hG, G_6_1 hG, G_6_2 hG, G_6_9 hG, G_6_10 hG, G_6_11 hG, G_6_12 hG, G_6_13 hG, G_7_0 hG, G_7_5 hG, G_8_8 hG, G_8_9 hG, G_9_8 hG, G_9_9 hG, G_10_7 hG, G_10_8 hG, G_10_9 hG, G_10_10 hG, G_10_11 hG, G_11_0 hG, G_12_2 hG, G_12_3 hG, G_12_4 hG, G_12_5 hG, G_12_7 hG, G_12_8 hG, G_12_9 hG, G_12_12 hG, G_12_13 hG, G_12_14 hG, G_12_22 hG, G_12_23 hG, G_12_29 hG, G_12_30 hG, G_12_31 hG, G_12_37 hG, G_12_38 hG, G_12_39 hG, G_12_40 hG, G_12_41 hG, G_12_43 hG, G_12_46 hG, G_12_47 hG, G_12_48 hG, G_25 hG, G_26 hG, G_47 hG, G_58 hG, n32_add, n32_mul, n32_lt, n32_le, n32_eq, n32_clamp, n32_inT, n32_div, n32_rem, n32_m1, n32_m1', n32_m1lt, n32_ltm1, n32_10, n32_01, Nat.not_lt_zero, Nat.lt_irrefl, Nat.mul_zero, Nat.zero_mul, Nat.zero_add, Nat.add_zero, Nat.reduceEqDiff, Nat.one_ne_zero, Nat.zero_ne_one, ax_psh_none, ax_psh_some, true_and, and_true, and_false, false_and, not_true_eq_false, not_false_eq_true, true_imp_iff, false_imp_iff, imp_self, or_true, true_or, or_false, false_or, and_self, ite_true, ite_false, if_true, if_false]
        exact ref_end0 hC hQ (by omega)
    · have e64 : ∀ j, refC gi (-2) 1 64 0 j = gi 64 0 j := fun j => refC_ne (by decide) (by decide) 0 j
      simp (disch := omega) only [e_S_hole, b_S_hole_0, b_S_hole_7, b_S_hole_10, b_S_hole_15, b_S_hole_16, b_S_hole_24a, b_S_hole_24b, b_S_hole_31, b_S_hole_37, b_S_hole_38, b_S_hole_48, b_S_hole_56, b_S_hole_61, b_S_hole_62, b_S_hole_79, b_S_hole_84, b_S_hole_89, b_S_hole_95, b_S_hole_96, b_S_hole_112, e_M_hole, b_M_hole_0, b_M_hole_7, b_M_hole_10, b_M_hole_15, b_M_hole_16, b_M_hole_21, b_M_hole_24, b_M_hole_30, b_M_hole_31, b_M_hole_38, b_M_hole_41, b_M_hole_46, b_M_hole_47, b_M_hole_62, b_M_hole_80, b_M_hole_85, b_M_hole_90, b_M_hole_95, b_M_hole_101, b_M_hole_102, b_M_hole_117, c_S_within, c_M_lies, win_T, c_Books_thingAt_n _ _ _ _ hG b1 hw, c_S_refuse1 _ _ _ _ hG, c_M_isThing _ _ _ _ hG, e64, k796, hw, c_M_refuses1 _ _ _ _ hG, G_0_0 hG, G_0_1 hG, G_0_2 hG, G_0_3 hG, G_0_7 hG, G_0_10 hG, G_0_12 hG, G_0_13 hG, G_0_14 hG, G_0_15 hG, G_0_16 hG, G_0_17 hG, G_1_0 hG, G_1_2 hG, G_1_5 hG, G_2_4 hG, G_2_5 hG, G_3_5 hG, G_3_6 hG, G_3_7 hG, G_3_8 hG, G_3_9 hG, G_5_0 hG, G_5_1 hG, G_6_0 hG, G_6_1 hG, G_6_2 hG, G_6_9 hG, G_6_10 hG, G_6_11 hG, G_6_12 hG, G_6_13 hG, G_7_0 hG, G_7_5 hG, G_8_8 hG, G_8_9 hG, G_9_8 hG, G_9_9 hG, G_10_7 hG, G_10_8 hG, G_10_9 hG, G_10_10 hG, G_10_11 hG, G_11_0 hG, G_12_2 hG, G_12_3 hG, G_12_4 hG, G_12_5 hG, G_12_7 hG, G_12_8 hG, G_12_9 hG, G_12_12 hG, G_12_13 hG, G_12_14 hG, G_12_22 hG, G_12_23 hG, G_12_29 hG, G_12_30 hG, G_12_31 hG, G_12_37 hG, G_12_38 hG, G_12_39 hG, G_12_40 hG, G_12_41 hG, G_12_43 hG, G_12_46 hG, G_12_47 hG, G_12_48 hG, G_25 hG, G_26 hG, G_47 hG, G_58 hG, n32_add, n32_mul, n32_lt, n32_le, n32_eq, n32_clamp, n32_inT, n32_div, n32_rem, n32_m1, n32_m1', n32_m1lt, n32_ltm1, n32_10, n32_01, Nat.not_lt_zero, Nat.lt_irrefl, Nat.mul_zero, Nat.zero_mul, Nat.zero_add, Nat.add_zero, Nat.reduceEqDiff, Nat.one_ne_zero, Nat.zero_ne_one, ax_psh_none, ax_psh_some, true_and, and_true, and_false, false_and, not_true_eq_false, not_false_eq_true, true_imp_iff, false_imp_iff, imp_self, or_true, true_or, or_false, false_or, and_self, ite_true, ite_false, if_true, if_false]
      exact ref_end0 hC hQ (by omega)
  · simp (disch := omega) only [e_S_hole, b_S_hole_0, b_S_hole_7, b_S_hole_10, b_S_hole_15, b_S_hole_16, b_S_hole_24a, b_S_hole_24b, b_S_hole_31, b_S_hole_37, b_S_hole_38, b_S_hole_48, b_S_hole_56, b_S_hole_61, b_S_hole_62, b_S_hole_79, b_S_hole_84, b_S_hole_89, b_S_hole_95, b_S_hole_96, b_S_hole_112, e_M_hole, b_M_hole_0, b_M_hole_7, b_M_hole_10, b_M_hole_15, b_M_hole_16, b_M_hole_21, b_M_hole_24, b_M_hole_30, b_M_hole_31, b_M_hole_38, b_M_hole_41, b_M_hole_46, b_M_hole_47, b_M_hole_62, b_M_hole_80, b_M_hole_85, b_M_hole_90, b_M_hole_95, b_M_hole_101, b_M_hole_102, b_M_hole_117, c_S_within, c_M_lies, hp, c_S_refuse0 _ _ _ _ hG, c_M_refuses0 _ _ _ _ hG, G_0_0 hG, G_0_1 hG, G_0_2 hG, G_0_3 hG, G_0_7 hG, G_0_10 hG, G_0_12 hG, G_0_13 hG, G_0_14 hG, G_0_15 hG, G_0_16 hG, G_0_17 hG, G_1_0 hG, G_1_2 hG, G_1_5 hG, G_2_4 hG, G_2_5 hG, G_3_5 hG, G_3_6 hG, G_3_7 hG, G_3_8 hG, G_3_9 hG, G_5_0 hG, G_5_1 hG, G_6_0 hG, G_6_1 hG, G_6_2 hG, G_6_9 hG, G_6_10 hG, G_6_11 hG, G_6_12 hG, G_6_13 hG, G_7_0 hG, G_7_5 hG, G_8_8 hG, G_8_9 hG, G_9_8 hG, G_9_9 hG, G_10_7 hG, G_10_8 hG, G_10_9 hG, G_10_10 hG, G_10_11 hG, G_11_0 hG, G_12_2 hG, G_12_3 hG, G_12_4 hG, G_12_5 hG, G_12_7 hG, G_12_8 hG, G_12_9 hG, G_12_12 hG, G_12_13 hG, G_12_14 hG, G_12_22 hG, G_12_23 hG, G_12_29 hG, G_12_30 hG, G_12_31 hG, G_12_37 hG, G_12_38 hG, G_12_39 hG, G_12_40 hG, G_12_41 hG, G_12_43 hG, G_12_46 hG, G_12_47 hG, G_12_48 hG, G_25 hG, G_26 hG, G_47 hG, G_58 hG, n32_add, n32_mul, n32_lt, n32_le, n32_eq, n32_clamp, n32_inT, n32_div, n32_rem, n32_m1, n32_m1', n32_m1lt, n32_ltm1, n32_10, n32_01, Nat.not_lt_zero, Nat.lt_irrefl, Nat.mul_zero, Nat.zero_mul, Nat.zero_add, Nat.add_zero, Nat.reduceEqDiff, Nat.one_ne_zero, Nat.zero_ne_one, ax_psh_none, ax_psh_some, true_and, and_true, and_false, false_and, not_true_eq_false, not_false_eq_true, true_imp_iff, false_imp_iff, imp_self, or_true, true_or, or_false, false_or, and_self, ite_true, ite_false, if_true, if_false]
    exact ref_end0 hC hQ (by omega)
