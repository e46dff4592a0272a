/-! the reference's board -/
def ThM (gi : GI) (t W T O : Nat) (b : Nat → Nat) : Prop := gi 64 0 (132 * t) = n32 W ∧ gi 64 0 (132 * t + 1) = n32 T ∧ gi 64 0 (132 * t + 2) = n32 O ∧ (1 ≤ W ∧ W ≤ 8) ∧ (1 ≤ T ∧ T ≤ 8) ∧ (∀ c, c < 64 → gi 64 0 (132 * t + (4 + c)) = n32 (b c) ∧ b c < 10)
theorem ThM_fr {gi gi' : GI} {t W T O : Nat} {b : Nat → Nat} (h : ThM gi t W T O b) (h64 : ∀ j, gi' 64 0 j = gi 64 0 j) : ThM gi' t W T O b := by
  unfold ThM at *
  simp only [h64]
  exact h
def layMod (s j : Nat) : Bool := (s == 12 && Nat.ble 24 j && Nat.ble j 28) || s == 74
theorem c_M_lays {d t W T O : Nat} {b : Nat → Nat} {gi : GI} {g : AG} {Q : Option AV → AH → Prop} (hG : GOK g) (ht6 : t < 6) (h : ThM gi t W T O b)
    (hq : ∀ gi', Fr layMod gi gi' → Laid gi' t W T b → gi' 12 0 27 = gi 64 0 798 → gi' 12 0 28 = gi 64 0 793 → Q none (gi', g)) :
    ax_call (d + 2) m_M_lays [.inr (.inr (some (12, 0))), .inl (n32 t)] (gi, g) Q := by
  obtain ⟨h0, h1, h2, hW, hT, hb⟩ := h
  have h64 := wt64 hW.2 hT.2
  have key := loop_up (n := W * T) (P := fun i => ∀ gi1 : GI, Fr layMod gi gi1 → gi1 12 0 24 = n32 t → gi1 12 0 25 = n32 W → gi1 12 0 26 = n32 T → gi1 12 0 27 = gi 64 0 798 → gi1 12 0 28 = gi 64 0 793 → (∀ c, c < i → gi1 74 0 c = n32 (b c)) → Runs (d + 1) (m_M_lays, 51, [some (.inr (.inr (some (12, 0)))), some (.inl (n32 t)), some (.inl (n32 i))], []) (gi1, g) Q) ?_ ?_
  · rw [e_M_lays]
    have w0 : ∀ x, ax_wI gi 12 0 24 x 64 0 (132 * t + 0) = n32 W := fun x => by rw [wI_at, if_neg (by omega)]; exact h0
    have w1 : ∀ x y, ax_wI (ax_wI gi 12 0 24 x) 12 0 25 y 64 0 (132 * t + 1) = n32 T := fun x y => by rw [wI_at, if_neg (by omega), wI_at, if_neg (by omega)]; exact h1
    simp (disch := omega) only [b_M_lays_0, b_M_lays_12, b_M_lays_22, c_M_factOf _ _ _ _ hG, w0, w1, G_0_0 hG, G_0_1 hG, G_0_2 hG, G_0_3 hG, G_0_7 hG, G_0_10 hG, G_0_12 hG, G_0_13 hG, G_0_14 hG, G_0_15 hG, G_0_16 hG, G_0_17 hG, G_1_0 hG, G_1_2 hG, G_1_5 hG, G_2_4 hG, G_2_5 hG, G_3_5 hG, G_3_6 hG, G_3_7 hG, G_3_8 hG, G_3_9 hG, G_5_0 hG, G_5_1 hG, G_6_0 hG, G_6_1 hG, G_6_2 hG, G_6_9 hG, G_6_10 hG, G_6_11 hG, G_6_12 hG, G_6_13 hG, G_7_0 hG, G_7_5 hG, G_8_8 hG, G_8_9 hG, G_9_8 hG, G_9_9 hG, G_10_7 hG, G_10_8 hG, G_10_9 hG, G_10_10 hG, G_10_11 hG, G_11_0 hG, G_12_2 hG, G_12_3 hG, G_12_4 hG, G_12_5 hG, G_12_7 hG, G_12_8 hG, G_12_9 hG, G_12_12 hG, G_12_13 hG, G_12_14 hG, G_12_22 hG, G_12_23 hG, G_12_29 hG, G_12_30 hG, G_12_31 hG, G_12_37 hG, G_12_38 hG, G_12_39 hG, G_12_40 hG, G_12_41 hG, G_12_43 hG, G_12_46 hG, G_12_47 hG, G_12_48 hG, G_25 hG, G_26 hG, G_47 hG, G_58 hG, wI_at, n32_add, n32_mul, n32_lt, n32_le, n32_eq, n32_clamp, n32_inT, n32_div, n32_rem, n32_m1, n32_m1', n32_m1lt, n32_ltm1, n32_10, n32_01, Nat.not_lt_zero, Nat.lt_irrefl, Nat.mul_zero, Nat.zero_mul, Nat.zero_add, Nat.add_zero, Nat.reduceEqDiff, Nat.one_ne_zero, Nat.zero_ne_one, ax_psh_none, ax_psh_some, true_and, and_true, and_false, false_and, not_true_eq_false, not_false_eq_true, true_imp_iff, false_imp_iff, imp_self, or_true, true_or, or_false, false_or, and_self, ite_true, ite_false, if_true, if_false, reduceIte, Nat.reduceEqDiff, Nat.reduceLT, Nat.reduceAdd, Nat.reduceMul, Nat.reduceSub, Nat.reduceDiv, Nat.reduceMod, Nat.reduceLeDiff]
    rw [h0]
    refine key 0 (Nat.zero_le _) _ (Fr_wI (Fr_wI (Fr_wI (Fr_wI (Fr_wI (Fr_refl _ _) rfl) rfl) rfl) rfl) rfl) ?_ ?_ ?_ ?_ ?_ (fun c hc => absurd hc (Nat.not_lt_zero c))
    · simp [wI_at]
    · simp [wI_at]
    · simp [wI_at]
    · simp [wI_at]
    · simp [wI_at]
  · intro i hi ih gi1 fr a24 a25 a26 a27 a28 a74
    have hbi := hb i (by omega)
    have e64 : gi1 64 0 (132 * t + (4 + i)) = n32 (b i) := (fr 64 0 _ rfl).trans hbi.1
    rw [b_M_lays_51]
    simp (disch := omega) only [b_M_lays_64, b_M_lays_77, a25, a26, hi, G_0_0 hG, G_0_1 hG, G_0_2 hG, G_0_3 hG, G_0_7 hG, G_0_10 hG, G_0_12 hG, G_0_13 hG, G_0_14 hG, G_0_15 hG, G_0_16 hG, G_0_17 hG, G_1_0 hG, G_1_2 hG, G_1_5 hG, G_2_4 hG, G_2_5 hG, G_3_5 hG, G_3_6 hG, G_3_7 hG, G_3_8 hG, G_3_9 hG, G_5_0 hG, G_5_1 hG, G_6_0 hG, G_6_1 hG, G_6_2 hG, G_6_9 hG, G_6_10 hG, G_6_11 hG, G_6_12 hG, G_6_13 hG, G_7_0 hG, G_7_5 hG, G_8_8 hG, G_8_9 hG, G_9_8 hG, G_9_9 hG, G_10_7 hG, G_10_8 hG, G_10_9 hG, G_10_10 hG, G_10_11 hG, G_11_0 hG, G_12_2 hG, G_12_3 hG, G_12_4 hG, G_12_5 hG, G_12_7 hG, G_12_8 hG, G_12_9 hG, G_12_12 hG, G_12_13 hG, G_12_14 hG, G_12_22 hG, G_12_23 hG, G_12_29 hG, G_12_30 hG, G_12_31 hG, G_12_37 hG, G_12_38 hG, G_12_39 hG, G_12_40 hG, G_12_41 hG, G_12_43 hG, G_12_46 hG, G_12_47 hG, G_12_48 hG, G_25 hG, G_26 hG, G_47 hG, G_58 hG, c_M_factOf _ _ _ _ hG, e64, n32_add, n32_mul, n32_lt, n32_le, n32_eq, n32_clamp, n32_inT, n32_div, n32_rem, n32_m1, n32_m1', n32_m1lt, n32_ltm1, n32_10, n32_01, Nat.not_lt_zero, Nat.lt_irrefl, Nat.mul_zero, Nat.zero_mul, Nat.zero_add, Nat.add_zero, Nat.reduceEqDiff, Nat.one_ne_zero, Nat.zero_ne_one, ax_psh_none, ax_psh_some, true_and, and_true, and_false, false_and, not_true_eq_false, not_false_eq_true, true_imp_iff, false_imp_iff, imp_self, or_true, true_or, or_false, false_or, and_self, ite_true, ite_false, if_true, if_false]
    refine ih _ (Fr_wI fr rfl) ?_ ?_ ?_ ?_ ?_ ?_
    · simp [wI_at, a24]
    · simp [wI_at, a25]
    · simp [wI_at, a26]
    · simp [wI_at, a27]
    · simp [wI_at, a28]
    · intro c hc
      rw [wI_at]
      by_cases z : c = i
      · rw [if_pos ⟨rfl, rfl, z⟩, z]
      · rw [if_neg (by omega)]
        exact a74 c (by omega)
  · intro gi1 fr a24 a25 a26 a27 a28 a74
    rw [b_M_lays_51]
    simp (disch := omega) only [b_M_lays_84, a25, a26, n32_add, n32_mul, n32_lt, n32_le, n32_eq, n32_clamp, n32_inT, n32_div, n32_rem, n32_m1, n32_m1', n32_m1lt, n32_ltm1, n32_10, n32_01, Nat.not_lt_zero, Nat.lt_irrefl, Nat.mul_zero, Nat.zero_mul, Nat.zero_add, Nat.add_zero, Nat.reduceEqDiff, Nat.one_ne_zero, Nat.zero_ne_one, ax_psh_none, ax_psh_some, true_and, and_true, and_false, false_and, not_true_eq_false, not_false_eq_true, true_imp_iff, false_imp_iff, imp_self, or_true, true_or, or_false, false_or, and_self, ite_true, ite_false, if_true, if_false]
    exact hq gi1 fr ⟨a24, a25, a26, hW.2, hT.2, ht6, fun c hc => ⟨a74 c hc, (hb c (by omega)).2⟩⟩ a27 a28
theorem c_takenTo5 (d : Nat) (gi : GI) (g : AG) (Q : Option AV → AH → Prop) {W T c : Nat} (hw : gi 12 0 25 = n32 W) (ht : gi 12 0 26 = n32 T) (hW : 1 ≤ W ∧ W ≤ 8) (hT : T ≤ 8) (hc : c < W * T) : ax_call (d + 1) m_M_takenTo5 [.inr (.inr (some (12, 0))), .inl (n32 c)] (gi, g) Q = Q (some (.inl (n32 (tk W T 5 c)))) (gi, g) := by
  have h64 := wt64 hW.2 hT
  have hy : c / W < T := by
    rw [Nat.div_lt_iff_lt_mul (by omega), Nat.mul_comm]
    exact hc
  have hx : c % W < W := Nat.mod_lt _ (by omega)
  have nz : ¬ n32 W = n32 0 := by
    rw [n32_eq (by omega) (by omega)]
    omega
  rw [e_M_takenTo5, b_M_takenTo5_0, hw, ht, n32_rem (by omega) (by omega), n32_div (by omega) (by omega)]
  show (_ ∧ _ ∧ _) = Q (some (.inl (n32 (c % W * W + (T - 1 - c / W))))) (gi, g)
  generalize c / W = y at *
  generalize c % W = x at *
  have hxw : x * W ≤ 64 := Nat.le_trans (Nat.mul_le_mul (by omega : x ≤ 8) hW.2) (by decide)
  simp (disch := omega) only [nz, n32_mul, n32_add, n32_sub, ax_psh_none, ax_psh_some, true_and, and_true, and_false, false_and, not_true_eq_false, not_false_eq_true, true_imp_iff, false_imp_iff, imp_self, or_true, true_or, or_false, false_or, and_self, ite_true, ite_false, if_true, if_false]
  congr 4
  omega
theorem c_M_takenTo (d : Nat) {gi : GI} {g : AG} {Q : Option AV → AH → Prop} (hG : GOK g) {W T f c : Nat} (hw : gi 12 0 25 = n32 W) (ht : gi 12 0 26 = n32 T) (hW : 1 ≤ W ∧ W ≤ 8) (hT : 1 ≤ T ∧ T ≤ 8) (hf : f < 8) (hF : isF W T f = true) (hc : c < W * T) : ax_call (d + 2) m_M_takenTo [.inr (.inr (some (12, 0))), .inl (n32 f), .inl (n32 c)] (gi, g) Q = Q (some (.inl (n32 (tk W T f c)))) (gi, g) := by
  have h64 := wt64 hW.2 hT.2
  have hy : c / W < T := by
    rw [Nat.div_lt_iff_lt_mul (by omega), Nat.mul_comm]
    exact hc
  have hx : c % W < W := Nat.mod_lt _ (by omega)
  have bnd : ∀ k, k ≤ 8 → k * W ≤ 64 := fun k hk => Nat.le_trans (Nat.mul_le_mul hk hW.2) (by decide)
  have nz : ¬ n32 W = n32 0 := by
    rw [n32_eq (by omega) (by omega)]
    omega
  rw [e_M_takenTo, b_M_takenTo_0, hw, n32_rem (by omega) (by omega), n32_div (by omega) (by omega)]
  simp only [nz, ax_psh_none, ax_psh_some, true_and, and_true, and_false, false_and, not_true_eq_false, not_false_eq_true, true_imp_iff, false_imp_iff, imp_self, or_true, true_or, or_false, false_or, and_self, ite_true, ite_false, if_true, if_false]
  by_cases h7 : f = 7
  · subst h7
    have hWT : W = T := by
      unfold isF at hF
      simp at hF
      exact hF
    have hF5 : isF W T 5 = true := by simp [isF, hWT]
    have t1 := tk_lt hW.2 hT.2 (by omega) hF5 hc
    have t2 := tk_lt hW.2 hT.2 (by omega) hF5 t1
    rw [show ax_tsw 5 (n32 7) = 173 by decide]
    simp only [b_M_takenTo_173, b_M_takenTo_180, b_M_takenTo_183, b_M_takenTo_186, c_takenTo5 _ _ _ _ hw ht hW hT.2 hc, c_takenTo5 _ _ _ _ hw ht hW hT.2 t1, c_takenTo5 _ _ _ _ hw ht hW hT.2 t2, ax_psh_none, ax_psh_some, true_and, and_true, and_false, false_and, not_true_eq_false, not_false_eq_true, true_imp_iff, false_imp_iff, imp_self, or_true, true_or, or_false, false_or, and_self, ite_true, ite_false, if_true, if_false]
    rw [(tk_57 hW.2 hT.2 hWT hc).2.2.1]
  · have cs : f = 0 ∨ f = 1 ∨ f = 2 ∨ f = 3 ∨ f = 4 ∨ f = 5 ∨ f = 6 := by omega
    rcases cs with rfl | rfl | rfl | rfl | rfl | rfl | rfl
    · rw [show ax_tsw 5 (n32 0) = 64 by decide, b_M_takenTo_64, hw]
      show _ = Q (some (.inl (n32 (c / W * W + (W - 1 - c % W))))) (gi, g)
      generalize c / W = y at *
      generalize c % W = x at *
      have b1 := bnd y (by omega)
      simp (disch := omega) only [n32_mul, n32_add, n32_sub]
      congr 4
      omega
    · rw [show ax_tsw 5 (n32 1) = 81 by decide, b_M_takenTo_81, hw, ht]
      show _ = Q (some (.inl (n32 ((T - 1 - c / W) * W + c % W)))) (gi, g)
      generalize c / W = y at *
      generalize c % W = x at *
      simp (disch := omega) only [n32_mul, n32_add, n32_sub]
    · rw [show ax_tsw 5 (n32 2) = 98 by decide, b_M_takenTo_98, hw, ht]
      show _ = Q (some (.inl (n32 ((T - 1 - c / W) * W + (W - 1 - c % W))))) (gi, g)
      generalize c / W = y at *
      generalize c % W = x at *
      have b3 := bnd (T - 1 - y) (by omega)
      simp (disch := omega) only [n32_mul, n32_add, n32_sub]
      congr 4
      omega
    · rw [show ax_tsw 5 (n32 3) = 122 by decide, b_M_takenTo_122, hw]
      show _ = Q (some (.inl (n32 (c % W * W + c / W)))) (gi, g)
      simp only [n32_mul, n32_add]
    · rw [show ax_tsw 5 (n32 4) = 132 by decide, b_M_takenTo_132, hw, ht]
      show _ = Q (some (.inl (n32 ((W - 1 - c % W) * W + (T - 1 - c / W))))) (gi, g)
      generalize c / W = y at *
      generalize c % W = x at *
      have b4 := bnd (W - 1 - x) (by omega)
      simp (disch := omega) only [n32_mul, n32_add, n32_sub]
      congr 4
      omega
    · rw [show ax_tsw 5 (n32 5) = 156 by decide, b_M_takenTo_156, hw, ht]
      show _ = Q (some (.inl (n32 (c % W * W + (T - 1 - c / W))))) (gi, g)
      generalize c / W = y at *
      generalize c % W = x at *
      have b2 := bnd x (by omega)
      simp (disch := omega) only [n32_mul, n32_add, n32_sub]
      congr 4
      omega
    · rw [show ax_tsw 5 (n32 6) = 187 by decide, b_M_takenTo_187]
      rfl
theorem likes_sub (W T : Nat) : n32 (likes W T) - n32 1 = n32 (likes W T - 1) := n32_sub (by have := likes_36 W T; omega)
theorem c_M_isLike (d : Nat) (gi : GI) (g : AG) (Q : Option AV → AH → Prop) {W T : Nat} (hw : gi 12 0 25 = n32 W) (ht : gi 12 0 26 = n32 T) (hW : W ≤ 8) (hT : T ≤ 8) (v : Int32) : ax_call (d + 2) m_M_isLike [.inr (.inr (some (12, 0))), .inl v] (gi, g) Q = Q (some (.inl (win v (n32 0) (n32 (likes W T) - n32 1)))) (gi, g) := by
  rw [likes_sub]
  unfold likes
  by_cases e : W = T
  · subst e
    rw [if_pos rfl]
    rcases win_01 v (n32 0) (n32 (6 - 1)) with z | z
    · rw [z]
      have z' : win v (n32 0) (n32 5) = n32 0 := z
      simp (disch := omega) only [e_M_isLike, b_M_isLike_0, b_M_isLike_13, b_M_isLike_17, b_M_isLike_18, b_M_isLike_21, c_M_lies, hw, ht, z', n32_add, n32_mul, n32_lt, n32_le, n32_eq, n32_clamp, n32_inT, n32_div, n32_rem, n32_m1, n32_m1', n32_m1lt, n32_ltm1, n32_10, n32_01, Nat.not_lt_zero, Nat.lt_irrefl, Nat.mul_zero, Nat.zero_mul, Nat.zero_add, Nat.add_zero, Nat.reduceEqDiff, Nat.one_ne_zero, Nat.zero_ne_one, ax_psh_none, ax_psh_some, true_and, and_true, and_false, false_and, not_true_eq_false, not_false_eq_true, true_imp_iff, false_imp_iff, imp_self, or_true, true_or, or_false, false_or, and_self, ite_true, ite_false, if_true, if_false]
    · rw [z]
      have z' : win v (n32 0) (n32 5) = n32 1 := z
      simp (disch := omega) only [e_M_isLike, b_M_isLike_0, b_M_isLike_13, b_M_isLike_17, b_M_isLike_18, b_M_isLike_21, c_M_lies, hw, ht, z', n32_add, n32_mul, n32_lt, n32_le, n32_eq, n32_clamp, n32_inT, n32_div, n32_rem, n32_m1, n32_m1', n32_m1lt, n32_ltm1, n32_10, n32_01, Nat.not_lt_zero, Nat.lt_irrefl, Nat.mul_zero, Nat.zero_mul, Nat.zero_add, Nat.add_zero, Nat.reduceEqDiff, Nat.one_ne_zero, Nat.zero_ne_one, ax_psh_none, ax_psh_some, true_and, and_true, and_false, false_and, not_true_eq_false, not_false_eq_true, true_imp_iff, false_imp_iff, imp_self, or_true, true_or, or_false, false_or, and_self, ite_true, ite_false, if_true, if_false]
  · rw [if_neg e]
    rcases win_01 v (n32 0) (n32 (3 - 1)) with z | z
    · rw [z]
      have z' : win v (n32 0) (n32 2) = n32 0 := z
      simp (disch := omega) only [e_M_isLike, b_M_isLike_0, b_M_isLike_13, b_M_isLike_17, b_M_isLike_18, b_M_isLike_21, c_M_lies, hw, ht, e, z', n32_add, n32_mul, n32_lt, n32_le, n32_eq, n32_clamp, n32_inT, n32_div, n32_rem, n32_m1, n32_m1', n32_m1lt, n32_ltm1, n32_10, n32_01, Nat.not_lt_zero, Nat.lt_irrefl, Nat.mul_zero, Nat.zero_mul, Nat.zero_add, Nat.add_zero, Nat.reduceEqDiff, Nat.one_ne_zero, Nat.zero_ne_one, ax_psh_none, ax_psh_some, true_and, and_true, and_false, false_and, not_true_eq_false, not_false_eq_true, true_imp_iff, false_imp_iff, imp_self, or_true, true_or, or_false, false_or, and_self, ite_true, ite_false, if_true, if_false]
    · rw [z]
      have z' : win v (n32 0) (n32 2) = n32 1 := z
      simp (disch := omega) only [e_M_isLike, b_M_isLike_0, b_M_isLike_13, b_M_isLike_17, b_M_isLike_18, b_M_isLike_21, c_M_lies, hw, ht, e, z', n32_add, n32_mul, n32_lt, n32_le, n32_eq, n32_clamp, n32_inT, n32_div, n32_rem, n32_m1, n32_m1', n32_m1lt, n32_ltm1, n32_10, n32_01, Nat.not_lt_zero, Nat.lt_irrefl, Nat.mul_zero, Nat.zero_mul, Nat.zero_add, Nat.add_zero, Nat.reduceEqDiff, Nat.one_ne_zero, Nat.zero_ne_one, ax_psh_none, ax_psh_some, true_and, and_true, and_false, false_and, not_true_eq_false, not_false_eq_true, true_imp_iff, false_imp_iff, imp_self, or_true, true_or, or_false, false_or, and_self, ite_true, ite_false, if_true, if_false]
theorem c_M_offOf (d : Nat) {gi : GI} {g : AG} {Q : Option AV → AH → Prop} (hG : GOK g) {t W T l : Nat} {b : Nat → Nat} (h : Laid gi t W T b) (hW1 : 1 ≤ W) (hT1 : 1 ≤ T) (hl : l < likes W T) : ax_call (d + 3) m_M_offOf [.inr (.inr (some (12, 0))), .inl (n32 l)] (gi, g) Q = Q (some (.inl (n32 (offF W T b l)))) (gi, g) := by
  obtain ⟨-, hw, ht, hW, hT, -, hb⟩ := h
  have h64 := wt64 hW hT
  have hl6 : l < 6 := by have := likes_36 W T; omega
  have hF := isF_like hl
  have key := loop_up (n := W * T) (P := fun i => Runs (d + 2) (m_M_offOf, 4, [some (.inr (.inr (some (12, 0)))), some (.inl (n32 l)), some (.inl (n32 (sumN (fun c => nq (b c) (b (tk W T l c))) i))), some (.inl (n32 i))], []) (gi, g) Q = Q (some (.inl (n32 (offF W T b l)))) (gi, g)) ?_ ?_
  · rw [e_M_offOf, b_M_offOf_0]
    exact key 0 (Nat.zero_le _)
  · intro i hi ih
    have htk := tk_lt hW hT (by omega) hF hi
    have b1 := hb i hi
    have b2 := hb _ htk
    rw [sumN_succ] at ih
    rw [b_M_offOf_4]
    by_cases he : b i = b (tk W T l i)
    · have e0 : nq (b i) (b (tk W T l i)) = 0 := if_pos he
      rw [e0] at ih
      simp (disch := omega) only [b_M_offOf_17, b_M_offOf_34, b_M_offOf_38, b_M_offOf_43, G_0_0 hG, G_0_1 hG, G_0_2 hG, G_0_3 hG, G_0_7 hG, G_0_10 hG, G_0_12 hG, G_0_13 hG, G_0_14 hG, G_0_15 hG, G_0_16 hG, G_0_17 hG, G_1_0 hG, G_1_2 hG, G_1_5 hG, G_2_4 hG, G_2_5 hG, G_3_5 hG, G_3_6 hG, G_3_7 hG, G_3_8 hG, G_3_9 hG, G_5_0 hG, G_5_1 hG, G_6_0 hG, G_6_1 hG, G_6_2 hG, G_6_9 hG, G_6_10 hG, G_6_11 hG, G_6_12 hG, G_6_13 hG, G_7_0 hG, G_7_5 hG, G_8_8 hG, G_8_9 hG, G_9_8 hG, G_9_9 hG, G_10_7 hG, G_10_8 hG, G_10_9 hG, G_10_10 hG, G_10_11 hG, G_11_0 hG, G_12_2 hG, G_12_3 hG, G_12_4 hG, G_12_5 hG, G_12_7 hG, G_12_8 hG, G_12_9 hG, G_12_12 hG, G_12_13 hG, G_12_14 hG, G_12_22 hG, G_12_23 hG, G_12_29 hG, G_12_30 hG, G_12_31 hG, G_12_37 hG, G_12_38 hG, G_12_39 hG, G_12_40 hG, G_12_41 hG, G_12_43 hG, G_12_46 hG, G_12_47 hG, G_12_48 hG, G_25 hG, G_26 hG, G_47 hG, G_58 hG, hw, ht, hi, c_M_takenTo _ hG hw ht ⟨hW1, hW⟩ ⟨hT1, hT⟩ (by omega : l < 8) hF hi, b1.1, b2.1, he.symm, n32_add, n32_mul, n32_lt, n32_le, n32_eq, n32_clamp, n32_inT, n32_div, n32_rem, n32_m1, n32_m1', n32_m1lt, n32_ltm1, n32_10, n32_01, Nat.not_lt_zero, Nat.lt_irrefl, Nat.mul_zero, Nat.zero_mul, Nat.zero_add, Nat.add_zero, Nat.reduceEqDiff, Nat.one_ne_zero, Nat.zero_ne_one, ax_psh_none, ax_psh_some, true_and, and_true, and_false, false_and, not_true_eq_false, not_false_eq_true, true_imp_iff, false_imp_iff, imp_self, or_true, true_or, or_false, false_or, and_self, ite_true, ite_false, if_true, if_false]
      exact ih
    · have e0 : nq (b i) (b (tk W T l i)) = 1 := if_neg he
      rw [e0] at ih
      simp (disch := omega) only [b_M_offOf_17, b_M_offOf_34, b_M_offOf_42, b_M_offOf_43, G_0_0 hG, G_0_1 hG, G_0_2 hG, G_0_3 hG, G_0_7 hG, G_0_10 hG, G_0_12 hG, G_0_13 hG, G_0_14 hG, G_0_15 hG, G_0_16 hG, G_0_17 hG, G_1_0 hG, G_1_2 hG, G_1_5 hG, G_2_4 hG, G_2_5 hG, G_3_5 hG, G_3_6 hG, G_3_7 hG, G_3_8 hG, G_3_9 hG, G_5_0 hG, G_5_1 hG, G_6_0 hG, G_6_1 hG, G_6_2 hG, G_6_9 hG, G_6_10 hG, G_6_11 hG, G_6_12 hG, G_6_13 hG, G_7_0 hG, G_7_5 hG, G_8_8 hG, G_8_9 hG, G_9_8 hG, G_9_9 hG, G_10_7 hG, G_10_8 hG, G_10_9 hG, G_10_10 hG, G_10_11 hG, G_11_0 hG, G_12_2 hG, G_12_3 hG, G_12_4 hG, G_12_5 hG, G_12_7 hG, G_12_8 hG, G_12_9 hG, G_12_12 hG, G_12_13 hG, G_12_14 hG, G_12_22 hG, G_12_23 hG, G_12_29 hG, G_12_30 hG, G_12_31 hG, G_12_37 hG, G_12_38 hG, G_12_39 hG, G_12_40 hG, G_12_41 hG, G_12_43 hG, G_12_46 hG, G_12_47 hG, G_12_48 hG, G_25 hG, G_26 hG, G_47 hG, G_58 hG, hw, ht, hi, c_M_takenTo _ hG hw ht ⟨hW1, hW⟩ ⟨hT1, hT⟩ (by omega : l < 8) hF hi, b1.1, b2.1, he, n32_add, n32_mul, n32_lt, n32_le, n32_eq, n32_clamp, n32_inT, n32_div, n32_rem, n32_m1, n32_m1', n32_m1lt, n32_ltm1, n32_10, n32_01, Nat.not_lt_zero, Nat.lt_irrefl, Nat.mul_zero, Nat.zero_mul, Nat.zero_add, Nat.add_zero, Nat.reduceEqDiff, Nat.one_ne_zero, Nat.zero_ne_one, ax_psh_none, ax_psh_some, true_and, and_true, and_false, false_and, not_true_eq_false, not_false_eq_true, true_imp_iff, false_imp_iff, imp_self, or_true, true_or, or_false, false_or, and_self, ite_true, ite_false, if_true, if_false]
      exact ih
  · rw [b_M_offOf_4]
    simp (disch := omega) only [b_M_offOf_51, hw, ht, n32_add, n32_mul, n32_lt, n32_le, n32_eq, n32_clamp, n32_inT, n32_div, n32_rem, n32_m1, n32_m1', n32_m1lt, n32_ltm1, n32_10, n32_01, Nat.not_lt_zero, Nat.lt_irrefl, Nat.mul_zero, Nat.zero_mul, Nat.zero_add, Nat.add_zero, Nat.reduceEqDiff, Nat.one_ne_zero, Nat.zero_ne_one, ax_psh_none, ax_psh_some, true_and, and_true, and_false, false_and, not_true_eq_false, not_false_eq_true, true_imp_iff, false_imp_iff, imp_self, or_true, true_or, or_false, false_or, and_self, ite_true, ite_false, if_true, if_false]
    rfl
