/-! the class's reader: parts -/
theorem pLeaf_n {c v : Nat → Nat} {a p : Nat} (h : c a = 50) (hv : v a ≤ 1000) (hp : p < 50) : pLeaf c v a p = .inr (a + 1, p + 1, [(0, v a)], fun _ => some (v a : Int)) := by
  unfold pLeaf
  rw [if_pos ⟨Or.inl ⟨h, hv⟩, hp⟩]
  simp only [h, if_true]
theorem pLeaf_w {c v : Nat → Nat} {a p : Nat} (h : 7 ≤ c a ∧ c a ≤ 14) (hp : p < 50) : pLeaf c v a p = .inr (a + 1, p + 1, [(1, c a - 7)], fun e => some (e (c a - 7))) := by
  unfold pLeaf
  have : ¬ c a = 50 := by omega
  rw [if_pos ⟨Or.inr h, hp⟩]
  simp only [this, if_false]
theorem pLeaf_f {c v : Nat → Nat} {a p : Nat} (h : ¬ (((c a = 50 ∧ v a ≤ 1000) ∨ (7 ≤ c a ∧ c a ≤ 14)) ∧ p < 50)) : pLeaf c v a p = .inl a := by
  unfold pLeaf
  rw [if_neg h]
/-- what is no bracket -/
theorem rd_leaf {c v : Nat → Nat} {N : Nat} (d : Nat) (gi : GI) (g : AG) (Q : Option AV → AH → Prop) (a p s : Nat) (hG : GOK g) (ht : TokC gi c v N) (ha : gi 6 0 4 = n32 a) (hp : gi 6 0 5 = n32 p) (hs : gi 6 0 8 = n32 s) (haN : a ≤ N) (hsa : s ≤ a) (hp50 : p ≤ 50) (o1 : Option AV)
    (hf : ∀ f gi', pLeaf c v a p = .inl f → Fr rdMod gi gi' → gi' 6 0 6 = gi 33 0 f → f ≤ N → (∃ s', s' ≤ 401 ∧ gi' 6 0 8 = n32 s') → Q (some (.inl (n32 0))) (gi', g))
    (hok : ∀ a' p' k m gi', pLeaf c v a p = .inr (a', p', k, m) → Fr rdMod gi gi' → gi' 6 0 4 = n32 a' → gi' 6 0 5 = n32 p' → gi' 6 0 8 = n32 (s + k.length) → a + k.length ≤ a' → a < a' → a' ≤ N → p' ≤ 50 → gi' 6 0 6 = gi 6 0 6 → CodeAt (gi' 37 0) (gi' 38 0) s k → (∀ j, j < s → gi' 37 0 j = gi 37 0 j ∧ gi' 38 0 j = gi 38 0 j) → Q (some (.inl (n32 1))) (gi', g)) :
    Runs (d + 1) (m_Reader_readPart, 75, [some (.inr (.inr (some (6, 0)))), o1, some (.inl (gi 32 0 a)), none, none], []) (gi, g) Q := by
  obtain ⟨hN, hend, htk⟩ := ht
  obtain ⟨h0, h1, h2, h3⟩ := htk a haN
  have fin : pLeaf c v a p = .inl a → Q (some (.inl (n32 0))) (ax_wI gi 6 0 6 (gi 33 0 a), g) := fun e => by
    refine hf a _ e (Fr_wI (Fr_refl _ _) rfl) (by simp [wI_at]) haN ⟨s, by omega, by simp [wI_at, hs]⟩
  have good : ∀ (K w : Nat) (m : (Nat → Int) → Option Int), pLeaf c v a p = .inr (a + 1, p + 1, [(K, w)], m) → a < N → p < 50 → Q (some (.inl (n32 1))) (emitG (ax_wI (ax_wI gi 6 0 5 (n32 (p + 1))) 6 0 4 (n32 (a + 1))) s (n32 K) (n32 w), g) := by
    intro K w m e haN' hp'
    refine hok (a + 1) (p + 1) [(K, w)] m _ e (Fr_emit (Fr_wI (Fr_wI (Fr_refl _ _) rfl) rfl)) (by simp [emitG_6, wI_at]) (by simp [emitG_6, wI_at]) (by simp [emitG_6]) (by simp) (by omega) (by omega) (by omega) (by simp [emitG_6, wI_at]) ?_ ?_
    · refine ⟨?_, ?_, trivial⟩ <;> simp [emitG, wI_at]
    · intro j hj
      have := emitG_lt (ax_wI (ax_wI gi 6 0 5 (n32 (p + 1))) 6 0 4 (n32 (a + 1))) (n32 K) (n32 w) hj
      simpa [wI_at] using this
  by_cases hp' : p < 50
  · rcases h0 with h0 | h0 | h0
    · by_cases e : a = N
      · have hz := hend a (by omega)
        have hl := pLeaf_f (c := c) (v := v) (a := a) (p := p) (by omega)
        simp (disch := omega) only [e_Reader_readPart, b_Reader_readPart_23, b_Reader_readPart_29, b_Reader_readPart_35, b_Reader_readPart_39, b_Reader_readPart_40, b_Reader_readPart_57, b_Reader_readPart_60, b_Reader_readPart_66, b_Reader_readPart_69, b_Reader_readPart_73, b_Reader_readPart_74, b_Reader_readPart_75, b_Reader_readPart_88, b_Reader_readPart_95, b_Reader_readPart_99, b_Reader_readPart_100, b_Reader_readPart_114, b_Reader_readPart_121, b_Reader_readPart_124, b_Reader_readPart_128, b_Reader_readPart_129, b_Reader_readPart_135, b_Reader_readPart_140, b_Reader_readPart_149, b_Reader_readPart_153, b_Reader_readPart_154, b_Reader_readPart_179, b_Reader_readPart_183, b_Reader_readPart_184, b_Reader_readPart_188, G_0_0 hG, G_0_1 hG, G_0_2 hG, G_0_3 hG, G_0_7 hG, G_0_10 hG, G_0_12 hG, G_0_13 hG, G_0_14 hG, G_0_15 hG, G_0_16 hG, G_0_17 hG, G_1_0 hG, G_1_2 hG, G_1_5 hG, G_2_4 hG, G_2_5 hG, G_3_5 hG, G_3_6 hG, G_3_7 hG, G_3_8 hG, G_3_9 hG, G_5_0 hG, G_5_1 hG, G_6_0 hG, G_6_1 hG, G_6_2 hG, G_6_9 hG, G_6_10 hG, G_6_11 hG, G_6_12 hG, G_6_13 hG, G_7_0 hG, G_7_5 hG, G_8_8 hG, G_8_9 hG, G_9_8 hG, G_9_9 hG, G_10_7 hG, G_10_8 hG, G_10_9 hG, G_10_10 hG, G_10_11 hG, G_11_0 hG, G_12_2 hG, G_12_3 hG, G_12_4 hG, G_12_5 hG, G_12_7 hG, G_12_8 hG, G_12_9 hG, G_12_12 hG, G_12_13 hG, G_12_14 hG, G_12_22 hG, G_12_23 hG, G_12_29 hG, G_12_30 hG, G_12_31 hG, G_12_37 hG, G_12_38 hG, G_12_39 hG, G_12_40 hG, G_12_41 hG, G_12_43 hG, G_12_46 hG, G_12_47 hG, G_12_48 hG, G_25 hG, G_26 hG, G_47 hG, G_58 hG, ha, hp, ((h3 h0).1 e).1, c_rfail d hG ha (by omega), n32_add, n32_mul, n32_lt, n32_le, n32_eq, n32_clamp, n32_inT, n32_div, n32_rem, n32_m1, n32_m1', n32_m1lt, n32_ltm1, n32_10, n32_01, Nat.not_lt_zero, Nat.lt_irrefl, Nat.mul_zero, Nat.zero_mul, Nat.zero_add, Nat.add_zero, Nat.reduceEqDiff, Nat.one_ne_zero, Nat.zero_ne_one, ax_psh_none, ax_psh_some, true_and, and_true, and_false, false_and, not_true_eq_false, not_false_eq_true, true_imp_iff, false_imp_iff, imp_self, or_true, true_or, or_false, false_or, and_self, ite_true, ite_false, if_true, if_false, reduceIte, Nat.reduceEqDiff, Nat.reduceLT, Nat.reduceAdd, Nat.reduceMul, Nat.reduceSub, Nat.reduceDiv, Nat.reduceMod, Nat.reduceLeDiff]
        exact fin hl
      · have haN' : a < N := by omega
        obtain ⟨k1, k2⟩ := (h3 h0).2 haN'
        by_cases h7 : 7 ≤ c a
        · have hl := pLeaf_w (c := c) (v := v) (a := a) (p := p) ⟨h7, h0⟩ hp'
          have kw : wdI (c a) = n32 (c a - 7) := by
            unfold wdI
            rw [if_neg (by omega), if_neg (by omega)]
          have hs1 : ∀ x y, (ax_wI (ax_wI gi 6 0 5 x) 6 0 4 y) 6 0 8 = n32 s := fun x y => by simp [wI_at, hs]
          rw [k2, kw]
          simp (disch := omega) only [e_Reader_readPart, b_Reader_readPart_23, b_Reader_readPart_29, b_Reader_readPart_35, b_Reader_readPart_39, b_Reader_readPart_40, b_Reader_readPart_57, b_Reader_readPart_60, b_Reader_readPart_66, b_Reader_readPart_69, b_Reader_readPart_73, b_Reader_readPart_74, b_Reader_readPart_75, b_Reader_readPart_88, b_Reader_readPart_95, b_Reader_readPart_99, b_Reader_readPart_100, b_Reader_readPart_114, b_Reader_readPart_121, b_Reader_readPart_124, b_Reader_readPart_128, b_Reader_readPart_129, b_Reader_readPart_135, b_Reader_readPart_140, b_Reader_readPart_149, b_Reader_readPart_153, b_Reader_readPart_154, b_Reader_readPart_179, b_Reader_readPart_183, b_Reader_readPart_184, b_Reader_readPart_188, G_0_0 hG, G_0_1 hG, G_0_2 hG, G_0_3 hG, G_0_7 hG, G_0_10 hG, G_0_12 hG, G_0_13 hG, G_0_14 hG, G_0_15 hG, G_0_16 hG, G_0_17 hG, G_1_0 hG, G_1_2 hG, G_1_5 hG, G_2_4 hG, G_2_5 hG, G_3_5 hG, G_3_6 hG, G_3_7 hG, G_3_8 hG, G_3_9 hG, G_5_0 hG, G_5_1 hG, G_6_0 hG, G_6_1 hG, G_6_2 hG, G_6_9 hG, G_6_10 hG, G_6_11 hG, G_6_12 hG, G_6_13 hG, G_7_0 hG, G_7_5 hG, G_8_8 hG, G_8_9 hG, G_9_8 hG, G_9_9 hG, G_10_7 hG, G_10_8 hG, G_10_9 hG, G_10_10 hG, G_10_11 hG, G_11_0 hG, G_12_2 hG, G_12_3 hG, G_12_4 hG, G_12_5 hG, G_12_7 hG, G_12_8 hG, G_12_9 hG, G_12_12 hG, G_12_13 hG, G_12_14 hG, G_12_22 hG, G_12_23 hG, G_12_29 hG, G_12_30 hG, G_12_31 hG, G_12_37 hG, G_12_38 hG, G_12_39 hG, G_12_40 hG, G_12_41 hG, G_12_43 hG, G_12_46 hG, G_12_47 hG, G_12_48 hG, G_25 hG, G_26 hG, G_47 hG, G_58 hG, ha, hp, k1, c_S_within, win_yes, hp', wI_at, c_emit d hG (hs1 _ _) (by omega : s ≤ 401), Nat.min_eq_left (by omega : s ≤ 400), n32_add, n32_mul, n32_lt, n32_le, n32_eq, n32_clamp, n32_inT, n32_div, n32_rem, n32_m1, n32_m1', n32_m1lt, n32_ltm1, n32_10, n32_01, Nat.not_lt_zero, Nat.lt_irrefl, Nat.mul_zero, Nat.zero_mul, Nat.zero_add, Nat.add_zero, Nat.reduceEqDiff, Nat.one_ne_zero, Nat.zero_ne_one, ax_psh_none, ax_psh_some, true_and, and_true, and_false, false_and, not_true_eq_false, not_false_eq_true, true_imp_iff, false_imp_iff, imp_self, or_true, true_or, or_false, false_or, and_self, ite_true, ite_false, if_true, if_false, reduceIte, Nat.reduceEqDiff, Nat.reduceLT, Nat.reduceAdd, Nat.reduceMul, Nat.reduceSub, Nat.reduceDiv, Nat.reduceMod, Nat.reduceLeDiff]
          exact good 1 (c a - 7) _ hl haN' hp'
        · have hl := pLeaf_f (c := c) (v := v) (a := a) (p := p) (by omega)
          have kw : win (wdI (c a)) (n32 0) (n32 7) = n32 0 := by
            unfold wdI
            split
            · decide
            · rw [if_pos (by omega), win_in (by omega) (by omega) (by omega)]
              omega
          rw [k2]
          simp (disch := omega) only [e_Reader_readPart, b_Reader_readPart_23, b_Reader_readPart_29, b_Reader_readPart_35, b_Reader_readPart_39, b_Reader_readPart_40, b_Reader_readPart_57, b_Reader_readPart_60, b_Reader_readPart_66, b_Reader_readPart_69, b_Reader_readPart_73, b_Reader_readPart_74, b_Reader_readPart_75, b_Reader_readPart_88, b_Reader_readPart_95, b_Reader_readPart_99, b_Reader_readPart_100, b_Reader_readPart_114, b_Reader_readPart_121, b_Reader_readPart_124, b_Reader_readPart_128, b_Reader_readPart_129, b_Reader_readPart_135, b_Reader_readPart_140, b_Reader_readPart_149, b_Reader_readPart_153, b_Reader_readPart_154, b_Reader_readPart_179, b_Reader_readPart_183, b_Reader_readPart_184, b_Reader_readPart_188, G_0_0 hG, G_0_1 hG, G_0_2 hG, G_0_3 hG, G_0_7 hG, G_0_10 hG, G_0_12 hG, G_0_13 hG, G_0_14 hG, G_0_15 hG, G_0_16 hG, G_0_17 hG, G_1_0 hG, G_1_2 hG, G_1_5 hG, G_2_4 hG, G_2_5 hG, G_3_5 hG, G_3_6 hG, G_3_7 hG, G_3_8 hG, G_3_9 hG, G_5_0 hG, G_5_1 hG, G_6_0 hG, G_6_1 hG, G_6_2 hG, G_6_9 hG, G_6_10 hG, G_6_11 hG, G_6_12 hG, G_6_13 hG, G_7_0 hG, G_7_5 hG, G_8_8 hG, G_8_9 hG, G_9_8 hG, G_9_9 hG, G_10_7 hG, G_10_8 hG, G_10_9 hG, G_10_10 hG, G_10_11 hG, G_11_0 hG, G_12_2 hG, G_12_3 hG, G_12_4 hG, G_12_5 hG, G_12_7 hG, G_12_8 hG, G_12_9 hG, G_12_12 hG, G_12_13 hG, G_12_14 hG, G_12_22 hG, G_12_23 hG, G_12_29 hG, G_12_30 hG, G_12_31 hG, G_12_37 hG, G_12_38 hG, G_12_39 hG, G_12_40 hG, G_12_41 hG, G_12_43 hG, G_12_46 hG, G_12_47 hG, G_12_48 hG, G_25 hG, G_26 hG, G_47 hG, G_58 hG, ha, hp, k1, c_S_within, kw, c_rfail d hG ha (by omega), n32_add, n32_mul, n32_lt, n32_le, n32_eq, n32_clamp, n32_inT, n32_div, n32_rem, n32_m1, n32_m1', n32_m1lt, n32_ltm1, n32_10, n32_01, Nat.not_lt_zero, Nat.lt_irrefl, Nat.mul_zero, Nat.zero_mul, Nat.zero_add, Nat.add_zero, Nat.reduceEqDiff, Nat.one_ne_zero, Nat.zero_ne_one, ax_psh_none, ax_psh_some, true_and, and_true, and_false, false_and, not_true_eq_false, not_false_eq_true, true_imp_iff, false_imp_iff, imp_self, or_true, true_or, or_false, false_or, and_self, ite_true, ite_false, if_true, if_false, reduceIte, Nat.reduceEqDiff, Nat.reduceLT, Nat.reduceAdd, Nat.reduceMul, Nat.reduceSub, Nat.reduceDiv, Nat.reduceMod, Nat.reduceLeDiff]
          exact fin hl
    · obtain ⟨k1, k2, k3⟩ := h2 h0
      have haN' : a < N := by
        rcases Nat.lt_or_ge a N with e | e
        · exact e
        · have := hend a e
          omega
      rw [k2]
      by_cases hv : v a ≤ 1000
      · have hl := pLeaf_n (c := c) (v := v) (a := a) (p := p) h0 hv hp'
        have hs1 : ∀ x y, (ax_wI (ax_wI gi 6 0 5 x) 6 0 4 y) 6 0 8 = n32 s := fun x y => by simp [wI_at, hs]
        have hv' : ¬ 1000 < v a := by omega
        simp (disch := omega) only [e_Reader_readPart, b_Reader_readPart_23, b_Reader_readPart_29, b_Reader_readPart_35, b_Reader_readPart_39, b_Reader_readPart_40, b_Reader_readPart_57, b_Reader_readPart_60, b_Reader_readPart_66, b_Reader_readPart_69, b_Reader_readPart_73, b_Reader_readPart_74, b_Reader_readPart_75, b_Reader_readPart_88, b_Reader_readPart_95, b_Reader_readPart_99, b_Reader_readPart_100, b_Reader_readPart_114, b_Reader_readPart_121, b_Reader_readPart_124, b_Reader_readPart_128, b_Reader_readPart_129, b_Reader_readPart_135, b_Reader_readPart_140, b_Reader_readPart_149, b_Reader_readPart_153, b_Reader_readPart_154, b_Reader_readPart_179, b_Reader_readPart_183, b_Reader_readPart_184, b_Reader_readPart_188, G_0_0 hG, G_0_1 hG, G_0_2 hG, G_0_3 hG, G_0_7 hG, G_0_10 hG, G_0_12 hG, G_0_13 hG, G_0_14 hG, G_0_15 hG, G_0_16 hG, G_0_17 hG, G_1_0 hG, G_1_2 hG, G_1_5 hG, G_2_4 hG, G_2_5 hG, G_3_5 hG, G_3_6 hG, G_3_7 hG, G_3_8 hG, G_3_9 hG, G_5_0 hG, G_5_1 hG, G_6_0 hG, G_6_1 hG, G_6_2 hG, G_6_9 hG, G_6_10 hG, G_6_11 hG, G_6_12 hG, G_6_13 hG, G_7_0 hG, G_7_5 hG, G_8_8 hG, G_8_9 hG, G_9_8 hG, G_9_9 hG, G_10_7 hG, G_10_8 hG, G_10_9 hG, G_10_10 hG, G_10_11 hG, G_11_0 hG, G_12_2 hG, G_12_3 hG, G_12_4 hG, G_12_5 hG, G_12_7 hG, G_12_8 hG, G_12_9 hG, G_12_12 hG, G_12_13 hG, G_12_14 hG, G_12_22 hG, G_12_23 hG, G_12_29 hG, G_12_30 hG, G_12_31 hG, G_12_37 hG, G_12_38 hG, G_12_39 hG, G_12_40 hG, G_12_41 hG, G_12_43 hG, G_12_46 hG, G_12_47 hG, G_12_48 hG, G_25 hG, G_26 hG, G_47 hG, G_58 hG, ha, hp, k1, hv', hp', wI_at, c_emit d hG (hs1 _ _) (by omega : s ≤ 401), Nat.min_eq_left (by omega : s ≤ 400), n32_add, n32_mul, n32_lt, n32_le, n32_eq, n32_clamp, n32_inT, n32_div, n32_rem, n32_m1, n32_m1', n32_m1lt, n32_ltm1, n32_10, n32_01, Nat.not_lt_zero, Nat.lt_irrefl, Nat.mul_zero, Nat.zero_mul, Nat.zero_add, Nat.add_zero, Nat.reduceEqDiff, Nat.one_ne_zero, Nat.zero_ne_one, ax_psh_none, ax_psh_some, true_and, and_true, and_false, false_and, not_true_eq_false, not_false_eq_true, true_imp_iff, false_imp_iff, imp_self, or_true, true_or, or_false, false_or, and_self, ite_true, ite_false, if_true, if_false, reduceIte, Nat.reduceEqDiff, Nat.reduceLT, Nat.reduceAdd, Nat.reduceMul, Nat.reduceSub, Nat.reduceDiv, Nat.reduceMod, Nat.reduceLeDiff]
        exact good 0 (v a) _ hl haN' hp'
      · have hl := pLeaf_f (c := c) (v := v) (a := a) (p := p) (by omega)
        have hv' : 1000 < v a := by omega
        simp (disch := omega) only [e_Reader_readPart, b_Reader_readPart_23, b_Reader_readPart_29, b_Reader_readPart_35, b_Reader_readPart_39, b_Reader_readPart_40, b_Reader_readPart_57, b_Reader_readPart_60, b_Reader_readPart_66, b_Reader_readPart_69, b_Reader_readPart_73, b_Reader_readPart_74, b_Reader_readPart_75, b_Reader_readPart_88, b_Reader_readPart_95, b_Reader_readPart_99, b_Reader_readPart_100, b_Reader_readPart_114, b_Reader_readPart_121, b_Reader_readPart_124, b_Reader_readPart_128, b_Reader_readPart_129, b_Reader_readPart_135, b_Reader_readPart_140, b_Reader_readPart_149, b_Reader_readPart_153, b_Reader_readPart_154, b_Reader_readPart_179, b_Reader_readPart_183, b_Reader_readPart_184, b_Reader_readPart_188, G_0_0 hG, G_0_1 hG, G_0_2 hG, G_0_3 hG, G_0_7 hG, G_0_10 hG, G_0_12 hG, G_0_13 hG, G_0_14 hG, G_0_15 hG, G_0_16 hG, G_0_17 hG, G_1_0 hG, G_1_2 hG, G_1_5 hG, G_2_4 hG, G_2_5 hG, G_3_5 hG, G_3_6 hG, G_3_7 hG, G_3_8 hG, G_3_9 hG, G_5_0 hG, G_5_1 hG, G_6_0 hG, G_6_1 hG, G_6_2 hG, G_6_9 hG, G_6_10 hG, G_6_11 hG, G_6_12 hG, G_6_13 hG, G_7_0 hG, G_7_5 hG, G_8_8 hG, G_8_9 hG, G_9_8 hG, G_9_9 hG, G_10_7 hG, G_10_8 hG, G_10_9 hG, G_10_10 hG, G_10_11 hG, G_11_0 hG, G_12_2 hG, G_12_3 hG, G_12_4 hG, G_12_5 hG, G_12_7 hG, G_12_8 hG, G_12_9 hG, G_12_12 hG, G_12_13 hG, G_12_14 hG, G_12_22 hG, G_12_23 hG, G_12_29 hG, G_12_30 hG, G_12_31 hG, G_12_37 hG, G_12_38 hG, G_12_39 hG, G_12_40 hG, G_12_41 hG, G_12_43 hG, G_12_46 hG, G_12_47 hG, G_12_48 hG, G_25 hG, G_26 hG, G_47 hG, G_58 hG, ha, hp, k1, hv', c_rfail d hG ha (by omega), n32_add, n32_mul, n32_lt, n32_le, n32_eq, n32_clamp, n32_inT, n32_div, n32_rem, n32_m1, n32_m1', n32_m1lt, n32_ltm1, n32_10, n32_01, Nat.not_lt_zero, Nat.lt_irrefl, Nat.mul_zero, Nat.zero_mul, Nat.zero_add, Nat.add_zero, Nat.reduceEqDiff, Nat.one_ne_zero, Nat.zero_ne_one, ax_psh_none, ax_psh_some, true_and, and_true, and_false, false_and, not_true_eq_false, not_false_eq_true, true_imp_iff, false_imp_iff, imp_self, or_true, true_or, or_false, false_or, and_self, ite_true, ite_false, if_true, if_false, reduceIte, Nat.reduceEqDiff, Nat.reduceLT, Nat.reduceAdd, Nat.reduceMul, Nat.reduceSub, Nat.reduceDiv, Nat.reduceMod, Nat.reduceLeDiff]
        exact fin hl
    · have hl := pLeaf_f (c := c) (v := v) (a := a) (p := p) (by omega)
      simp (disch := omega) only [e_Reader_readPart, b_Reader_readPart_23, b_Reader_readPart_29, b_Reader_readPart_35, b_Reader_readPart_39, b_Reader_readPart_40, b_Reader_readPart_57, b_Reader_readPart_60, b_Reader_readPart_66, b_Reader_readPart_69, b_Reader_readPart_73, b_Reader_readPart_74, b_Reader_readPart_75, b_Reader_readPart_88, b_Reader_readPart_95, b_Reader_readPart_99, b_Reader_readPart_100, b_Reader_readPart_114, b_Reader_readPart_121, b_Reader_readPart_124, b_Reader_readPart_128, b_Reader_readPart_129, b_Reader_readPart_135, b_Reader_readPart_140, b_Reader_readPart_149, b_Reader_readPart_153, b_Reader_readPart_154, b_Reader_readPart_179, b_Reader_readPart_183, b_Reader_readPart_184, b_Reader_readPart_188, G_0_0 hG, G_0_1 hG, G_0_2 hG, G_0_3 hG, G_0_7 hG, G_0_10 hG, G_0_12 hG, G_0_13 hG, G_0_14 hG, G_0_15 hG, G_0_16 hG, G_0_17 hG, G_1_0 hG, G_1_2 hG, G_1_5 hG, G_2_4 hG, G_2_5 hG, G_3_5 hG, G_3_6 hG, G_3_7 hG, G_3_8 hG, G_3_9 hG, G_5_0 hG, G_5_1 hG, G_6_0 hG, G_6_1 hG, G_6_2 hG, G_6_9 hG, G_6_10 hG, G_6_11 hG, G_6_12 hG, G_6_13 hG, G_7_0 hG, G_7_5 hG, G_8_8 hG, G_8_9 hG, G_9_8 hG, G_9_9 hG, G_10_7 hG, G_10_8 hG, G_10_9 hG, G_10_10 hG, G_10_11 hG, G_11_0 hG, G_12_2 hG, G_12_3 hG, G_12_4 hG, G_12_5 hG, G_12_7 hG, G_12_8 hG, G_12_9 hG, G_12_12 hG, G_12_13 hG, G_12_14 hG, G_12_22 hG, G_12_23 hG, G_12_29 hG, G_12_30 hG, G_12_31 hG, G_12_37 hG, G_12_38 hG, G_12_39 hG, G_12_40 hG, G_12_41 hG, G_12_43 hG, G_12_46 hG, G_12_47 hG, G_12_48 hG, G_25 hG, G_26 hG, G_47 hG, G_58 hG, ha, hp, (h1 h0.1).1, c_rfail d hG ha (by omega), n32_add, n32_mul, n32_lt, n32_le, n32_eq, n32_clamp, n32_inT, n32_div, n32_rem, n32_m1, n32_m1', n32_m1lt, n32_ltm1, n32_10, n32_01, Nat.not_lt_zero, Nat.lt_irrefl, Nat.mul_zero, Nat.zero_mul, Nat.zero_add, Nat.add_zero, Nat.reduceEqDiff, Nat.one_ne_zero, Nat.zero_ne_one, ax_psh_none, ax_psh_some, true_and, and_true, and_false, false_and, not_true_eq_false, not_false_eq_true, true_imp_iff, false_imp_iff, imp_self, or_true, true_or, or_false, false_or, and_self, ite_true, ite_false, if_true, if_false, reduceIte, Nat.reduceEqDiff, Nat.reduceLT, Nat.reduceAdd, Nat.reduceMul, Nat.reduceSub, Nat.reduceDiv, Nat.reduceMod, Nat.reduceLeDiff]
      exact fin hl
  · have hl := pLeaf_f (c := c) (v := v) (a := a) (p := p) (by omega)
    have any : ∀ L1 L2 L3 L4, Runs (d + 1) (m_Reader_readPart, 149, [some (.inr (.inr (some (6, 0)))), L1, L2, L3, L4], []) (gi, g) Q := by
      intro L1 L2 L3 L4
      simp (disch := omega) only [b_Reader_readPart_149, b_Reader_readPart_153, c_rfail d hG ha (by omega), n32_add, n32_mul, n32_lt, n32_le, n32_eq, n32_clamp, n32_inT, n32_div, n32_rem, n32_m1, n32_m1', n32_m1lt, n32_ltm1, n32_10, n32_01, Nat.not_lt_zero, Nat.lt_irrefl, Nat.mul_zero, Nat.zero_mul, Nat.zero_add, Nat.add_zero, Nat.reduceEqDiff, Nat.one_ne_zero, Nat.zero_ne_one, ax_psh_none, ax_psh_some, true_and, and_true, and_false, false_and, not_true_eq_false, not_false_eq_true, true_imp_iff, false_imp_iff, imp_self, or_true, true_or, or_false, false_or, and_self, ite_true, ite_false, if_true, if_false, reduceIte, Nat.reduceEqDiff, Nat.reduceLT, Nat.reduceAdd, Nat.reduceMul, Nat.reduceSub, Nat.reduceDiv, Nat.reduceMod, Nat.reduceLeDiff]
      exact fin hl
    have any2 : ∀ L1 (L2 L3 : Int32) L4, Runs (d + 1) (m_Reader_readPart, 140, [some (.inr (.inr (some (6, 0)))), L1, some (.inl L2), some (.inl L3), L4], []) (gi, g) Q := by
      intro L1 L2 L3 L4
      rw [b_Reader_readPart_140]
      refine ⟨fun q => ?_, fun _ => any _ _ _ _⟩
      rw [hp, n32_lt (by omega) (by omega)] at q
      exact absurd q hp'
    have any3 : ∀ L1 (L2 L3 : Int32) (x : Int32), Runs (d + 1) (m_Reader_readPart, 129, [some (.inr (.inr (some (6, 0)))), L1, some (.inl L2), some (.inl L3), none], [.inl x]) (gi, g) Q := by
      intro L1 L2 L3 x
      rw [b_Reader_readPart_129]
      refine ⟨fun _ => ?_, fun _ => any2 _ _ _ _⟩
      rw [b_Reader_readPart_135]
      exact ⟨fun _ => any _ _ _ _, fun _ => any2 _ _ _ _⟩
    have any4 : ∀ L1 (L2 : Int32) (x : Int32), Runs (d + 1) (m_Reader_readPart, 100, [some (.inr (.inr (some (6, 0)))), L1, some (.inl L2), none, none], [.inl x]) (gi, g) Q := by
      intro L1 L2 x
      rw [b_Reader_readPart_100]
      refine ⟨G_6_0 hG 0, by rw [ha]; exact n32_in (by omega) (by omega), fun _ => ?_, fun _ => ?_⟩
      · rw [b_Reader_readPart_114, c_S_within]
        simp only [ax_psh_none, ax_psh_some, true_and, and_true, and_false, false_and, not_true_eq_false, not_false_eq_true, true_imp_iff, false_imp_iff, imp_self, or_true, true_or, or_false, false_or, and_self, ite_true, ite_false, if_true, if_false]
        rw [b_Reader_readPart_121]
        refine ⟨fun _ => ?_, fun _ => ?_⟩
        · rw [b_Reader_readPart_128]
          exact any3 _ _ _ _
        · rw [b_Reader_readPart_124]
          exact any3 _ _ _ _
      · rw [b_Reader_readPart_128]
        exact any3 _ _ _ _
    rw [b_Reader_readPart_75]
    refine ⟨G_6_0 hG 0, by rw [ha]; exact n32_in (by omega) (by omega), fun _ => ?_, fun _ => ?_⟩
    · rw [b_Reader_readPart_88]
      refine ⟨fun _ => ?_, fun _ => ?_⟩
      · rw [b_Reader_readPart_99]
        exact any4 _ _ _
      · rw [b_Reader_readPart_95]
        exact any4 _ _ _
    · rw [b_Reader_readPart_99]
      exact any4 _ _ _
theorem rd_readPart {c v : Nat → Nat} {N r h : Nat} {inn : PI Int} (hr : r ≤ 8) (hi : (r = 0 ∧ ∀ a p s, inn a p s = .inl (a - 1)) ∨ (0 < r ∧ RdC c v N inn m_Reader_readSum h (r - 1))) (hh : 1 ≤ h) : RdC c v N (pBra c v inn) m_Reader_readPart (h + 1) r := by
  intro D gi g Q a p s hD hG ht ha hp hs haN hsa hp50 hf hok
  obtain ⟨d, rfl⟩ : ∃ d2, D = d2 + 2 := ⟨D - 2, by omega⟩
  have hN : N ≤ 400 := ht.1
  rw [e_Reader_readPart]
  obtain ⟨h0, h1, h2, h3⟩ := ht.2.2 a haN
  by_cases hb : c a = 191
  · have haN' : a < N := by
      rcases Nat.lt_or_ge a N with e | e
      · exact e
      · have := ht.2.1 a e
        omega
    obtain ⟨k1, k2⟩ := h1 (by omega)
    rw [hb] at k2
    have k2 : gi 32 0 a = n32 91 := k2
    rcases hi with ⟨rfl, hi⟩ | ⟨hr0, hi⟩
    · simp (disch := omega) only [b_Reader_readPart_0, b_Reader_readPart_23, b_Reader_readPart_29, b_Reader_readPart_35, b_Reader_readPart_39, b_Reader_readPart_40, b_Reader_readPart_57, b_Reader_readPart_60, b_Reader_readPart_66, b_Reader_readPart_69, b_Reader_readPart_73, b_Reader_readPart_74, b_Reader_readPart_75, b_Reader_readPart_88, b_Reader_readPart_95, b_Reader_readPart_99, b_Reader_readPart_100, b_Reader_readPart_114, b_Reader_readPart_121, b_Reader_readPart_124, b_Reader_readPart_128, b_Reader_readPart_129, b_Reader_readPart_135, b_Reader_readPart_140, b_Reader_readPart_149, b_Reader_readPart_153, b_Reader_readPart_154, b_Reader_readPart_179, b_Reader_readPart_183, b_Reader_readPart_184, b_Reader_readPart_188, G_0_0 hG, G_0_1 hG, G_0_2 hG, G_0_3 hG, G_0_7 hG, G_0_10 hG, G_0_12 hG, G_0_13 hG, G_0_14 hG, G_0_15 hG, G_0_16 hG, G_0_17 hG, G_1_0 hG, G_1_2 hG, G_1_5 hG, G_2_4 hG, G_2_5 hG, G_3_5 hG, G_3_6 hG, G_3_7 hG, G_3_8 hG, G_3_9 hG, G_5_0 hG, G_5_1 hG, G_6_0 hG, G_6_1 hG, G_6_2 hG, G_6_9 hG, G_6_10 hG, G_6_11 hG, G_6_12 hG, G_6_13 hG, G_7_0 hG, G_7_5 hG, G_8_8 hG, G_8_9 hG, G_9_8 hG, G_9_9 hG, G_10_7 hG, G_10_8 hG, G_10_9 hG, G_10_10 hG, G_10_11 hG, G_11_0 hG, G_12_2 hG, G_12_3 hG, G_12_4 hG, G_12_5 hG, G_12_7 hG, G_12_8 hG, G_12_9 hG, G_12_12 hG, G_12_13 hG, G_12_14 hG, G_12_22 hG, G_12_23 hG, G_12_29 hG, G_12_30 hG, G_12_31 hG, G_12_37 hG, G_12_38 hG, G_12_39 hG, G_12_40 hG, G_12_41 hG, G_12_43 hG, G_12_46 hG, G_12_47 hG, G_12_48 hG, G_25 hG, G_26 hG, G_47 hG, G_58 hG, ha, hp, k1, k2, c_rfail d hG ha (by omega), n32_add, n32_mul, n32_lt, n32_le, n32_eq, n32_clamp, n32_inT, n32_div, n32_rem, n32_m1, n32_m1', n32_m1lt, n32_ltm1, n32_10, n32_01, Nat.not_lt_zero, Nat.lt_irrefl, Nat.mul_zero, Nat.zero_mul, Nat.zero_add, Nat.add_zero, Nat.reduceEqDiff, Nat.one_ne_zero, Nat.zero_ne_one, ax_psh_none, ax_psh_some, true_and, and_true, and_false, false_and, not_true_eq_false, not_false_eq_true, true_imp_iff, false_imp_iff, imp_self, or_true, true_or, or_false, false_or, and_self, ite_true, ite_false, if_true, if_false, reduceIte, Nat.reduceEqDiff, Nat.reduceLT, Nat.reduceAdd, Nat.reduceMul, Nat.reduceSub, Nat.reduceDiv, Nat.reduceMod, Nat.reduceLeDiff]
      refine hf a _ ?_ (Fr_wI (Fr_refl _ _) rfl) (by simp [wI_at]) haN ⟨s, by omega, by simp [wI_at, hs]⟩
      simp only [pBra, hb, if_true, hi]
      rfl
    · have fr1 : Fr rdMod gi (ax_wI gi 6 0 4 (n32 (a + 1))) := Fr_wI (Fr_refl _ _) rfl
      have hlt : 8 - r < 8 := by omega
      have e1 : 8 - r + 1 = 8 - (r - 1) := by omega
      simp (disch := omega) only [b_Reader_readPart_0, b_Reader_readPart_23, b_Reader_readPart_29, b_Reader_readPart_40, G_0_0 hG, G_0_1 hG, G_0_2 hG, G_0_3 hG, G_0_7 hG, G_0_10 hG, G_0_12 hG, G_0_13 hG, G_0_14 hG, G_0_15 hG, G_0_16 hG, G_0_17 hG, G_1_0 hG, G_1_2 hG, G_1_5 hG, G_2_4 hG, G_2_5 hG, G_3_5 hG, G_3_6 hG, G_3_7 hG, G_3_8 hG, G_3_9 hG, G_5_0 hG, G_5_1 hG, G_6_0 hG, G_6_1 hG, G_6_2 hG, G_6_9 hG, G_6_10 hG, G_6_11 hG, G_6_12 hG, G_6_13 hG, G_7_0 hG, G_7_5 hG, G_8_8 hG, G_8_9 hG, G_9_8 hG, G_9_9 hG, G_10_7 hG, G_10_8 hG, G_10_9 hG, G_10_10 hG, G_10_11 hG, G_11_0 hG, G_12_2 hG, G_12_3 hG, G_12_4 hG, G_12_5 hG, G_12_7 hG, G_12_8 hG, G_12_9 hG, G_12_12 hG, G_12_13 hG, G_12_14 hG, G_12_22 hG, G_12_23 hG, G_12_29 hG, G_12_30 hG, G_12_31 hG, G_12_37 hG, G_12_38 hG, G_12_39 hG, G_12_40 hG, G_12_41 hG, G_12_43 hG, G_12_46 hG, G_12_47 hG, G_12_48 hG, G_25 hG, G_26 hG, G_47 hG, G_58 hG, ha, hp, k1, k2, hlt, e1, n32_add, n32_mul, n32_lt, n32_le, n32_eq, n32_clamp, n32_inT, n32_div, n32_rem, n32_m1, n32_m1', n32_m1lt, n32_ltm1, n32_10, n32_01, Nat.not_lt_zero, Nat.lt_irrefl, Nat.mul_zero, Nat.zero_mul, Nat.zero_add, Nat.add_zero, Nat.reduceEqDiff, Nat.one_ne_zero, Nat.zero_ne_one, ax_psh_none, ax_psh_some, true_and, and_true, and_false, false_and, not_true_eq_false, not_false_eq_true, true_imp_iff, false_imp_iff, imp_self, or_true, true_or, or_false, false_or, and_self, ite_true, ite_false, if_true, if_false, reduceIte, Nat.reduceEqDiff, Nat.reduceLT, Nat.reduceAdd, Nat.reduceMul, Nat.reduceSub, Nat.reduceDiv, Nat.reduceMod, Nat.reduceLeDiff]
      apply hi (d + 1) _ g _ (a + 1) p s (by omega) hG (TokC_fr ht fr1) (by simp [wI_at]) (by simp [wI_at, hp]) (by simp [wI_at, hs]) (by omega) (by omega) hp50
      · intro f gi' hk hfr h6 hfN hs'
        simp only [b_Reader_readPart_57, b_Reader_readPart_73, b_Reader_readPart_74, ax_psh_none, ax_psh_some, true_and, and_true, and_false, false_and, not_true_eq_false, not_false_eq_true, true_imp_iff, false_imp_iff, imp_self, or_true, true_or, or_false, false_or, and_self, ite_true, ite_false, if_true, if_false]
        exact hf f gi' (by simp only [pBra, hb, if_true, hk]) (Fr_trans fr1 hfr) (h6.trans (fr1 33 0 f rfl)) hfN hs'
      · intro a' p' k m gi' hk hfr ha' hp' hs' hl1 hl2 haN'' hp50' h66 hc' hlow
        have hfr' := Fr_trans fr1 hfr
        have ht' := TokC_fr ht hfr'
        by_cases hc2 : c a' = 193
        · have haN3 : a' < N := by
            rcases Nat.lt_or_ge a' N with e | e
            · exact e
            · have := ht.2.1 a' e
              omega
          simp only [b_Reader_readPart_57, b_Reader_readPart_60, c_exp_y d hG ht' ha' haN'' (ch := 93) hc2, b_Reader_readPart_66, b_Reader_readPart_69, b_Reader_readPart_74, n32_10, ax_psh_none, ax_psh_some, true_and, and_true, and_false, false_and, not_true_eq_false, not_false_eq_true, true_imp_iff, false_imp_iff, imp_self, or_true, true_or, or_false, false_or, and_self, ite_true, ite_false, if_true, if_false]
          refine hok (a' + 1) p' k m _ (by simp only [pBra, hb, if_true, hk, hc2]) (Fr_wI hfr' rfl) (by simp [wI_at]) (by simp [wI_at, hp']) (by simp [wI_at, hs']) (by omega) (by omega) (by omega) hp50' (by simpa [wI_at] using h66) ?_ ?_
          · exact CodeAt_congr hc' (fun j _ _ => by simp [wI_at])
          · intro j hj
            have := hlow j hj
            simpa [wI_at] using this
        · simp only [b_Reader_readPart_57, b_Reader_readPart_60, c_exp_n d hG ht' ha' haN'' (ch := 93) (by decide) hc2, b_Reader_readPart_66, b_Reader_readPart_73, b_Reader_readPart_74, n32_10, ax_psh_none, ax_psh_some, true_and, and_true, and_false, false_and, not_true_eq_false, not_false_eq_true, true_imp_iff, false_imp_iff, imp_self, or_true, true_or, or_false, false_or, and_self, ite_true, ite_false, if_true, if_false]
          refine hf a' _ (by simp only [pBra, hb, if_true, hk, hc2, if_false]) (Fr_wI hfr' rfl) ?_ haN'' ⟨s + k.length, by omega, by simp [wI_at, hs']⟩
          simp only [wI_at, ax_psh_none, ax_psh_some, true_and, and_true, and_false, false_and, not_true_eq_false, not_false_eq_true, true_imp_iff, false_imp_iff, imp_self, or_true, true_or, or_false, false_or, and_self, ite_true, ite_false, if_true, if_false, reduceIte, Nat.reduceEqDiff, Nat.reduceLT, Nat.reduceAdd, Nat.reduceMul, Nat.reduceSub, Nat.reduceDiv, Nat.reduceMod, Nat.reduceLeDiff]
          exact hfr' 33 0 a' rfl
  · have z := rd_leaf d gi g Q a p s hG ht ha hp hs haN hsa hp50 (some (.inl (n32 (8 - r)))) (fun f gi' q => hf f gi' (by simp only [pBra, hb, if_false]; exact q)) (fun a' p' k m gi' q => hok a' p' k m gi' (by simp only [pBra, hb, if_false]; exact q))
    rw [b_Reader_readPart_0]
    refine ⟨G_6_1 hG 0, by rw [ha]; exact n32_in (by omega) (by omega), G_6_0 hG 0, by rw [ha]; exact n32_in (by omega) (by omega), fun q => ?_, fun _ => ?_⟩
    · rw [b_Reader_readPart_23]
      refine ⟨fun q2 => ?_, fun _ => ?_⟩
      · rw [ha, n32_clamp (by omega)] at q q2
        exfalso
        rcases h0 with h0 | h0 | h0
        · by_cases e : a = N
          · rw [((h3 h0).1 e).1, n32_eq (by omega) (by omega)] at q
            omega
          · rw [((h3 h0).2 (by omega)).1, n32_eq (by omega) (by omega)] at q
            omega
        · rw [(h2 h0).1, n32_eq (by omega) (by omega)] at q
          omega
        · rw [(h1 h0.1).2, n32_eq (by omega) (by omega)] at q2
          omega
      · rw [ha, n32_clamp (by omega)]
        exact z
    · rw [ha, n32_clamp (by omega)]
      exact z
