/-! the class's papers: a cell put; rings; forms -/
theorem c_put {d t W T O c p : Nat} {b : Nat → Nat} {gi : GI} {g : AG} {Q : Option AV → AH → Prop} (hG : GOK g) (ht6 : t < 6) (h : Pap gi t W T O b) (hc : c < W * T) (hp : p < 10)
    (hq : ∀ gi', OnlyP t gi gi' → Pap gi' t W T O (updB b c p) → Q none (gi', g)) :
    ax_call (d + 2) m_Paper_put [.inr (.inr (some (3, t))), .inl (n32 c), .inl (n32 p)] (gi, g) Q := by
  have h0 := h
  obtain ⟨hP, h2, h3, h54, hb, h55, h56⟩ := h
  have hW := hP.2.2.2.1
  have hT := hP.2.2.2.2.1
  have h64 := wt64 hW.2 hT.2
  have lk := likes_36 W T
  have hbc := hb c hc
  have key := loop_up (n := likes W T) (P := fun i => ∀ gi1 : GI, (∀ s a j, ¬ (s = 55 ∧ a = t) → gi1 s a j = gi s a j) → (∀ l, l < i → gi1 55 t l = n32 (offF W T (updB b c p) l)) → (∀ l, i ≤ l → gi1 55 t l = gi 55 t l) → Runs (d + 1) (m_Paper_put, 10, [some (.inr (.inr (some (3, t)))), some (.inl (n32 c)), some (.inl (n32 p)), some (.inl (n32 (ptsF (W * T) (updB b c p)))), some (.inl (n32 i))], []) (gi1, g) Q) ?_ ?_
  · rw [e_Paper_put]
    simp only [b_Paper_put_0, b_Paper_put_6, c_unlikeWith _ hG h0 hc hp, ax_psh_none, ax_psh_some, true_and, and_true, and_false, false_and, not_true_eq_false, not_false_eq_true, true_imp_iff, false_imp_iff, imp_self, or_true, true_or, or_false, false_or, and_self, ite_true, ite_false, if_true, if_false]
    exact key 0 (Nat.zero_le _) gi (fun _ _ _ _ => rfl) (fun l hl => absurd hl (Nat.not_lt_zero l)) (fun _ _ => rfl)
  · intro i hi ih gi1 f1 f2 f3
    have hP1 : PapW gi1 t W T := ⟨(f1 3 t 0 (by omega)).trans hP.1, (f1 3 t 1 (by omega)).trans hP.2.1, (f1 3 t 4 (by omega)).trans hP.2.2.1, hW, hT, fun f hf c hc => (f1 59 _ c (by omega)).trans (hP.2.2.2.2.2 f hf c hc)⟩
    have a54 : ∀ c, c < 64 → gi1 54 t c = n32 (b c) := fun c hc => (f1 54 t c (by omega)).trans (h54 c hc)
    have a55 : gi1 55 t i = n32 (offF W T b i) := (f3 i (Nat.le_refl _)).trans (h55 i hi)
    rw [b_Paper_put_10]
    simp (disch := omega) only [b_Paper_put_19, b_Paper_put_33, hP1.2.2.1, hi, G_0_0 hG, G_0_1 hG, G_0_2 hG, G_0_3 hG, G_0_7 hG, G_0_10 hG, G_0_12 hG, G_0_13 hG, G_0_14 hG, G_0_15 hG, G_0_16 hG, G_0_17 hG, G_1_0 hG, G_1_2 hG, G_1_5 hG, G_2_4 hG, G_2_5 hG, G_3_5 hG, G_3_6 hG, G_3_7 hG, G_3_8 hG, G_3_9 hG, G_5_0 hG, G_5_1 hG, G_6_0 hG, G_6_1 hG, G_6_2 hG, G_6_9 hG, G_6_10 hG, G_6_11 hG, G_6_12 hG, G_6_13 hG, G_7_0 hG, G_7_5 hG, G_8_8 hG, G_8_9 hG, G_9_8 hG, G_9_9 hG, G_10_7 hG, G_10_8 hG, G_10_9 hG, G_10_10 hG, G_10_11 hG, G_11_0 hG, G_12_2 hG, G_12_3 hG, G_12_4 hG, G_12_5 hG, G_12_7 hG, G_12_8 hG, G_12_9 hG, G_12_12 hG, G_12_13 hG, G_12_14 hG, G_12_22 hG, G_12_23 hG, G_12_29 hG, G_12_30 hG, G_12_31 hG, G_12_37 hG, G_12_38 hG, G_12_39 hG, G_12_40 hG, G_12_41 hG, G_12_43 hG, G_12_46 hG, G_12_47 hG, G_12_48 hG, G_25 hG, G_26 hG, G_47 hG, G_58 hG, c_offWith _ hG ht6 hP1 a54 hb a55 hi hc hp, n32_add, n32_mul, n32_lt, n32_le, n32_eq, n32_clamp, n32_inT, n32_div, n32_rem, n32_m1, n32_m1', n32_m1lt, n32_ltm1, n32_10, n32_01, Nat.not_lt_zero, Nat.lt_irrefl, Nat.mul_zero, Nat.zero_mul, Nat.zero_add, Nat.add_zero, Nat.reduceEqDiff, Nat.one_ne_zero, Nat.zero_ne_one, ax_psh_none, ax_psh_some, true_and, and_true, and_false, false_and, not_true_eq_false, not_false_eq_true, true_imp_iff, false_imp_iff, imp_self, or_true, true_or, or_false, false_or, and_self, ite_true, ite_false, if_true, if_false]
    refine ih _ ?_ ?_ ?_
    · intro s a j q
      rw [wI_at, if_neg (by omega)]
      exact f1 s a j q
    · intro l hl
      rw [wI_at]
      by_cases z : l = i
      · rw [if_pos ⟨rfl, rfl, z⟩, z]
      · rw [if_neg (by omega)]
        exact f2 l (by omega)
    · intro l hl
      rw [wI_at, if_neg (by omega)]
      exact f3 l (by omega)
  · intro gi1 f1 f2 f3
    have a54 : ∀ c, c < 64 → gi1 54 t c = n32 (b c) := fun c hc => (f1 54 t c (by omega)).trans (h54 c hc)
    have a56 : ∀ p, p < 10 → gi1 56 t p = n32 (cntF (W * T) b p) := fun p hp => (f1 56 t p (by omega)).trans (h56 p hp)
    have a4 : gi1 3 t 4 = n32 (likes W T) := (f1 3 t 4 (by omega)).trans hP.2.2.1
    have hpos := cnt_pos (b := b) hc
    have hcl := cnt_le (W * T) b (b c)
    have hcp := cnt_le (W * T) b p
    have e1 : n32 (cntF (W * T) b (b c)) - n32 1 = n32 (cntF (W * T) b (b c) - 1) := n32_sub hpos
    have w54 : ∀ x, ax_wI gi1 3 t 3 x 54 t c = n32 (b c) := fun x => by rw [wI_at, if_neg (by omega), a54 c (by omega)]
    have w56 : ∀ x, ax_wI gi1 3 t 3 x 56 t (b c) = n32 (cntF (W * T) b (b c)) := fun x => by rw [wI_at, if_neg (by omega), a56 _ hbc]
    have v56 : ∀ x, ax_wI (ax_wI gi1 3 t 3 x) 56 t (b c) (n32 (cntF (W * T) b (b c) - 1)) 56 t p = n32 (if p = b c then cntF (W * T) b (b c) - 1 else cntF (W * T) b p) := fun x => by
      rw [wI_at]
      by_cases z : p = b c
      · rw [if_pos ⟨rfl, rfl, z⟩, if_pos z]
      · rw [if_neg (by omega), if_neg z, wI_at, if_neg (by omega), a56 p hp]
    rw [b_Paper_put_10]
    simp (disch := omega) only [b_Paper_put_40, a4, G_0_0 hG, G_0_1 hG, G_0_2 hG, G_0_3 hG, G_0_7 hG, G_0_10 hG, G_0_12 hG, G_0_13 hG, G_0_14 hG, G_0_15 hG, G_0_16 hG, G_0_17 hG, G_1_0 hG, G_1_2 hG, G_1_5 hG, G_2_4 hG, G_2_5 hG, G_3_5 hG, G_3_6 hG, G_3_7 hG, G_3_8 hG, G_3_9 hG, G_5_0 hG, G_5_1 hG, G_6_0 hG, G_6_1 hG, G_6_2 hG, G_6_9 hG, G_6_10 hG, G_6_11 hG, G_6_12 hG, G_6_13 hG, G_7_0 hG, G_7_5 hG, G_8_8 hG, G_8_9 hG, G_9_8 hG, G_9_9 hG, G_10_7 hG, G_10_8 hG, G_10_9 hG, G_10_10 hG, G_10_11 hG, G_11_0 hG, G_12_2 hG, G_12_3 hG, G_12_4 hG, G_12_5 hG, G_12_7 hG, G_12_8 hG, G_12_9 hG, G_12_12 hG, G_12_13 hG, G_12_14 hG, G_12_22 hG, G_12_23 hG, G_12_29 hG, G_12_30 hG, G_12_31 hG, G_12_37 hG, G_12_38 hG, G_12_39 hG, G_12_40 hG, G_12_41 hG, G_12_43 hG, G_12_46 hG, G_12_47 hG, G_12_48 hG, G_25 hG, G_26 hG, G_47 hG, G_58 hG, w54, w56, e1, v56, n32_add, n32_mul, n32_lt, n32_le, n32_eq, n32_clamp, n32_inT, n32_div, n32_rem, n32_m1, n32_m1', n32_m1lt, n32_ltm1, n32_10, n32_01, Nat.not_lt_zero, Nat.lt_irrefl, Nat.mul_zero, Nat.zero_mul, Nat.zero_add, Nat.add_zero, Nat.reduceEqDiff, Nat.one_ne_zero, Nat.zero_ne_one, ax_psh_none, ax_psh_some, true_and, and_true, and_false, false_and, not_true_eq_false, not_false_eq_true, true_imp_iff, false_imp_iff, imp_self, or_true, true_or, or_false, false_or, and_self, ite_true, ite_false, if_true, if_false]
    refine hq _ ?_ ⟨⟨?_, ?_, ?_, hW, hT, ?_⟩, ?_, ?_, ?_, ?_, ?_, ?_⟩
    · refine OnlyP_wI (OnlyP_wI (OnlyP_wI (OnlyP_wI ?_ (by omega)) (by omega)) (by omega)) (by omega)
      intro s a j q1 q2 q3
      exact f1 s a j (by omega)
    · rw [wI_at, if_neg (by omega), wI_at, if_neg (by omega), wI_at, if_neg (by omega), wI_at, if_neg (by omega), f1 3 t 0 (by omega), hP.1]
    · rw [wI_at, if_neg (by omega), wI_at, if_neg (by omega), wI_at, if_neg (by omega), wI_at, if_neg (by omega), f1 3 t 1 (by omega), hP.2.1]
    · rw [wI_at, if_neg (by omega), wI_at, if_neg (by omega), wI_at, if_neg (by omega), wI_at, if_neg (by omega), a4]
    · intro f hf c' hc'
      rw [wI_at, if_neg (by omega), wI_at, if_neg (by omega), wI_at, if_neg (by omega), wI_at, if_neg (by omega), f1 59 _ _ (by omega), hP.2.2.2.2.2 f hf c' hc']
    · rw [wI_at, if_neg (by omega), wI_at, if_neg (by omega), wI_at, if_neg (by omega), wI_at, if_neg (by omega), f1 3 t 2 (by omega), h2]
    · rw [wI_at, if_neg (by omega), wI_at, if_neg (by omega), wI_at, if_neg (by omega), wI_at, if_pos ⟨rfl, rfl, rfl⟩]
    · intro c' hc'
      rw [wI_at]
      unfold updB
      by_cases z : c' = c
      · rw [if_pos ⟨rfl, rfl, z⟩, if_pos z]
      · rw [if_neg (by omega), if_neg z, wI_at, if_neg (by omega), wI_at, if_neg (by omega), wI_at, if_neg (by omega), a54 c' hc']
    · intro c' hc'
      unfold updB
      split
      · exact hp
      · exact hb c' hc'
    · intro l hl
      rw [wI_at, if_neg (by omega), wI_at, if_neg (by omega), wI_at, if_neg (by omega), wI_at, if_neg (by omega)]
      exact f2 l hl
    · intro p' hp'
      have hu := cnt_upd b p p' hc
      rw [wI_at, if_neg (by omega), wI_at]
      by_cases z : p' = p
      · rw [if_pos ⟨rfl, rfl, z⟩]
        rw [if_pos z.symm] at hu
        congr 1
        by_cases z2 : p = b c
        · rw [if_pos z2]
          rw [if_pos (by omega)] at hu
          rw [z] at hu ⊢
          rw [← z2] at hpos ⊢
          omega
        · rw [if_neg z2]
          rw [if_neg (by omega)] at hu
          rw [z] at hu ⊢
          omega
      · rw [if_neg (by omega), wI_at]
        rw [if_neg (Ne.symm z)] at hu
        by_cases z2 : p' = b c
        · rw [if_pos ⟨rfl, rfl, z2⟩]
          rw [if_pos z2.symm] at hu
          congr 1
          rw [z2] at hu ⊢
          omega
        · rw [if_neg (by omega), wI_at, if_neg (by omega), a56 p' hp']
          rw [if_neg (Ne.symm z2)] at hu
          congr 1
          omega
