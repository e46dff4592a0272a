/-! the class's papers: laid, painted -/
def ThC (gi : GI) (r W T O : Nat) (b : Nat → Nat) : Prop := gi 2 r 0 = n32 W ∧ gi 2 r 1 = n32 T ∧ gi 2 r 2 = n32 O ∧ (1 ≤ W ∧ W ≤ 8) ∧ (1 ≤ T ∧ T ≤ 8) ∧ (∀ c, c < 64 → gi 29 r c = n32 (b c) ∧ b c < 10)
theorem ThC_fr {gi gi' : GI} {r W T O : Nat} {b : Nat → Nat} (h : ThC gi r W T O b) (h2 : ∀ j, gi' 2 r j = gi 2 r j) (h29 : ∀ j, gi' 29 r j = gi 29 r j) : ThC gi' r W T O b := by
  unfold ThC at *
  simp only [h2, h29]
  exact h
theorem c_Paper_copy {d t r W T O : Nat} {b : Nat → Nat} {gi : GI} {g : AG} {Q : Option AV → AH → Prop} (hG : GOK g) (ht6 : t < 6) (hI : PaperInv gi t) (hTh : ThC gi r W T O b)
    (hq : ∀ gi', OnlyP t gi gi' → Pap gi' t W T O b → Q none (gi', g)) :
    ax_call (d + 4) m_Paper_copy [.inr (.inr (some (3, t))), .inr (.inr (some (2, r)))] (gi, g) Q := by
  obtain ⟨h0, h1, h2, hW, hT, hb⟩ := hTh
  have h64 := wt64 hW.2 hT.2
  have hb10 : BrdOK W T b := fun c hc => (hb c (by omega)).2
  have c0 : (n32 0).toNatClampNeg = 0 := by decide
  have c64 : (n32 64).toNatClampNeg = 64 := by decide
  have nn : ¬ n32 64 < n32 0 := by decide
  have n0 : ¬ n32 0 < n32 0 := by decide
  have lk := likes_36 W T
  -- from where its ways are right
  have fin : ∀ (gi1 : GI) o2, OnlyP t gi gi1 → PapW gi1 t W T → Runs (d + 3) (m_Paper_copy, 57, [some (.inr (.inr (some (3, t)))), some (.inr (.inr (some (2, r)))), o2], []) (gi1, g) Q := by
    intro gi1 o2 hO hP
    rw [b_Paper_copy_57, c0, c64]
    refine ⟨G_2_4 hG r, G_3_5 hG t, ⟨⟨n0, n0, nn, by omega, by omega⟩, Or.inl rfl⟩, ?_⟩
    have e2 : gi1 2 r 2 = n32 O := (hO 2 r 2 (by omega) (by omega) (by omega)).trans h2
    rw [e2]
    have x2 : ∃ gi2 : GI, gi2 = ax_cI (ax_wI gi1 3 t 2 (n32 O)) 29 r 0 54 t 0 64 ∧ OnlyP t gi gi2 ∧ PapW gi2 t W T ∧ gi2 3 t 2 = n32 O ∧ ∀ c, c < 64 → gi2 54 t c = n32 (b c) := by
      refine ⟨_, rfl, ?_, ?_, ?_, ?_⟩
      · intro s a j q1 q2 q3
        rw [cI_at, if_neg (by omega), wI_at, if_neg (by omega)]
        exact hO s a j q1 q2 q3
      · obtain ⟨p0, p1, p4, pW, pT, pw⟩ := hP
        refine ⟨?_, ?_, ?_, pW, pT, ?_⟩
        · rw [cI_at, if_neg (by omega), wI_at, if_neg (by omega), p0]
        · rw [cI_at, if_neg (by omega), wI_at, if_neg (by omega), p1]
        · rw [cI_at, if_neg (by omega), wI_at, if_neg (by omega), p4]
        · intro f hf c hc
          rw [cI_at, if_neg (by omega), wI_at, if_neg (by omega)]
          exact pw f hf c hc
      · rw [cI_at, if_neg (by omega), wI_at, if_pos ⟨rfl, rfl, rfl⟩]
      · intro c hc
        rw [cI_at, if_pos ⟨rfl, rfl, by omega, by omega⟩, wI_at, if_neg (by omega), hO 29 r _ (by omega) (by omega) (by omega)]
        rw [show 0 + (c - 0) = c by omega]
        exact (hb c hc).1
    obtain ⟨gi2, eg2, hO2, hP2, hOw, h54⟩ := x2
    rw [← eg2]
    refine c_countParts (d := d + 1) hG hP2.1 hP2.2.1 hW.2 hT.2 (fun c hc => h54 c (by omega)) hb10 ?_
    intro gi3 fr3 h33 h56
    simp only [b_Paper_copy_84, ax_psh_none, ax_psh_some, true_and, and_true, and_false, false_and, not_true_eq_false, not_false_eq_true, true_imp_iff, false_imp_iff, imp_self, or_true, true_or, or_false, false_or, and_self, ite_true, ite_false, if_true, if_false]
    have hO3 : OnlyP t gi gi3 := fun s a j q1 q2 q3 => (fr3 s a j (by omega) (by omega)).trans (hO2 s a j q1 q2 q3)
    have key := loop_up (n := likes W T) (P := fun i => ∀ (gi4 : GI) o1, OnlyP t gi gi4 → PapW gi4 t W T → gi4 3 t 2 = n32 O → gi4 3 t 3 = n32 (ptsF (W * T) b) → (∀ c, c < 64 → gi4 54 t c = n32 (b c)) → (∀ p, p < 10 → gi4 56 t p = n32 (cntF (W * T) b p)) → (∀ l, l < i → gi4 55 t l = n32 (offF W T b l)) → Runs (d + 3) (m_Paper_copy, 86, [some (.inr (.inr (some (3, t)))), o1, some (.inl (n32 i))], []) (gi4, g) Q) ?_ ?_
    · refine key 0 (Nat.zero_le _) gi3 _ hO3 ?_ ?_ h33 ?_ h56 (fun l hl => absurd hl (Nat.not_lt_zero l))
      · obtain ⟨p0, p1, p4, pW, pT, pw⟩ := hP2
        refine ⟨(fr3 3 t 0 (by omega) (by omega)).trans p0, (fr3 3 t 1 (by omega) (by omega)).trans p1, (fr3 3 t 4 (by omega) (by omega)).trans p4, pW, pT, fun f hf c hc => (fr3 59 _ c (by omega) (by omega)).trans (pw f hf c hc)⟩
      · exact (fr3 3 t 2 (by omega) (by omega)).trans hOw
      · intro c hc
        exact (fr3 54 t c (by omega) (by omega)).trans (h54 c hc)
    · intro i hi ih gi4 o1 a1 a2 a3 a4 a5 a6 a7
      rw [b_Paper_copy_86]
      simp (disch := omega) only [b_Paper_copy_94, b_Paper_copy_104, a2.2.2.1, hi, G_0_0 hG, G_0_1 hG, G_0_2 hG, G_0_3 hG, G_0_7 hG, G_0_10 hG, G_0_12 hG, G_0_13 hG, G_0_14 hG, G_0_15 hG, G_0_16 hG, G_0_17 hG, G_1_0 hG, G_1_2 hG, G_1_5 hG, G_2_4 hG, G_2_5 hG, G_3_5 hG, G_3_6 hG, G_3_7 hG, G_3_8 hG, G_3_9 hG, G_5_0 hG, G_5_1 hG, G_6_0 hG, G_6_1 hG, G_6_2 hG, G_6_9 hG, G_6_10 hG, G_6_11 hG, G_6_12 hG, G_6_13 hG, G_7_0 hG, G_7_5 hG, G_8_8 hG, G_8_9 hG, G_9_8 hG, G_9_9 hG, G_10_7 hG, G_10_8 hG, G_10_9 hG, G_10_10 hG, G_10_11 hG, G_11_0 hG, G_12_2 hG, G_12_3 hG, G_12_4 hG, G_12_5 hG, G_12_7 hG, G_12_8 hG, G_12_9 hG, G_12_12 hG, G_12_13 hG, G_12_14 hG, G_12_22 hG, G_12_23 hG, G_12_29 hG, G_12_30 hG, G_12_31 hG, G_12_37 hG, G_12_38 hG, G_12_39 hG, G_12_40 hG, G_12_41 hG, G_12_43 hG, G_12_46 hG, G_12_47 hG, G_12_48 hG, G_25 hG, G_26 hG, G_47 hG, G_58 hG, c_countOff _ hG ht6 a2 hi (fun c hc => a5 c (by omega)) hb10, n32_add, n32_mul, n32_lt, n32_le, n32_eq, n32_clamp, n32_inT, n32_div, n32_rem, n32_m1, n32_m1', n32_m1lt, n32_ltm1, n32_10, n32_01, Nat.not_lt_zero, Nat.lt_irrefl, Nat.mul_zero, Nat.zero_mul, Nat.zero_add, Nat.add_zero, Nat.reduceEqDiff, Nat.one_ne_zero, Nat.zero_ne_one, ax_psh_none, ax_psh_some, true_and, and_true, and_false, false_and, not_true_eq_false, not_false_eq_true, true_imp_iff, false_imp_iff, imp_self, or_true, true_or, or_false, false_or, and_self, ite_true, ite_false, if_true, if_false]
      refine ih _ _ (OnlyP_wI a1 (by omega)) ?_ ?_ ?_ ?_ ?_ ?_
      · obtain ⟨p0, p1, p4, pW, pT, pw⟩ := a2
        refine ⟨?_, ?_, ?_, pW, pT, ?_⟩
        · rw [wI_at, if_neg (by omega), p0]
        · rw [wI_at, if_neg (by omega), p1]
        · rw [wI_at, if_neg (by omega), p4]
        · intro f hf c hc
          rw [wI_at, if_neg (by omega)]
          exact pw f hf c hc
      · rw [wI_at, if_neg (by omega), a3]
      · rw [wI_at, if_neg (by omega), a4]
      · intro c hc
        rw [wI_at, if_neg (by omega)]
        exact a5 c hc
      · intro p hp
        rw [wI_at, if_neg (by omega)]
        exact a6 p hp
      · intro l hl
        rw [wI_at]
        by_cases z : l = i
        · rw [if_pos ⟨rfl, rfl, z⟩, z]
        · rw [if_neg (by omega)]
          exact a7 l (by omega)
    · intro gi4 o1 a1 a2 a3 a4 a5 a6 a7
      rw [b_Paper_copy_86]
      simp (disch := omega) only [b_Paper_copy_111, a2.2.2.1, n32_add, n32_mul, n32_lt, n32_le, n32_eq, n32_clamp, n32_inT, n32_div, n32_rem, n32_m1, n32_m1', n32_m1lt, n32_ltm1, n32_10, n32_01, Nat.not_lt_zero, Nat.lt_irrefl, Nat.mul_zero, Nat.zero_mul, Nat.zero_add, Nat.add_zero, Nat.reduceEqDiff, Nat.one_ne_zero, Nat.zero_ne_one, ax_psh_none, ax_psh_some, true_and, and_true, and_false, false_and, not_true_eq_false, not_false_eq_true, true_imp_iff, false_imp_iff, imp_self, or_true, true_or, or_false, false_or, and_self, ite_true, ite_false, if_true, if_false]
      exact hq gi4 a1 ⟨a2, a3, a4, a5, hb10, a7, a6⟩
  -- ways drawn anew
  have draw : ∀ o2, Runs (d + 3) (m_Paper_copy, 22, [some (.inr (.inr (some (3, t)))), some (.inr (.inr (some (2, r)))), o2], []) (gi, g) Q := by
    intro o2
    have w0 : ∀ x y, ax_wI (ax_wI gi 3 t 0 x) 3 t 1 y 3 t 0 = x := fun x y => by simp [wI_at]
    have w1 : ∀ x y, ax_wI (ax_wI gi 3 t 0 x) 3 t 1 y 3 t 1 = y := fun x y => by simp [wI_at]
    have w2 : ∀ x, ax_wI gi 3 t 0 x 2 r 1 = n32 T := fun x => by simp [wI_at, h1]
    simp only [b_Paper_copy_22, b_Paper_copy_50, h0, w2, w0, w1, c_S_likenessesOf _ _ _ _ W T hW.2 hT.2, ax_psh_none, ax_psh_some, true_and, and_true, and_false, false_and, not_true_eq_false, not_false_eq_true, true_imp_iff, false_imp_iff, imp_self, or_true, true_or, or_false, false_or, and_self, ite_true, ite_false, if_true, if_false]
    have hO1 : OnlyP t gi (ax_wI (ax_wI (ax_wI gi 3 t 0 (n32 W)) 3 t 1 (n32 T)) 3 t 4 (n32 (likes W T))) := OnlyP_wI (OnlyP_wI (OnlyP_wI (OnlyP_refl _ _) (by omega)) (by omega)) (by omega)
    have v0 : ax_wI (ax_wI (ax_wI gi 3 t 0 (n32 W)) 3 t 1 (n32 T)) 3 t 4 (n32 (likes W T)) 3 t 0 = n32 W := by simp [wI_at]
    have v1 : ax_wI (ax_wI (ax_wI gi 3 t 0 (n32 W)) 3 t 1 (n32 T)) 3 t 4 (n32 (likes W T)) 3 t 1 = n32 T := by simp [wI_at]
    have v4 : ax_wI (ax_wI (ax_wI gi 3 t 0 (n32 W)) 3 t 1 (n32 T)) 3 t 4 (n32 (likes W T)) 3 t 4 = n32 (likes W T) := by simp [wI_at]
    generalize ax_wI (ax_wI (ax_wI gi 3 t 0 (n32 W)) 3 t 1 (n32 T)) 3 t 4 (n32 (likes W T)) = gi1 at *
    refine c_drawWays (d := d) hG ht6 v0 v1 v4 hW hT ?_
    intro gi2 fr hway
    simp only [ax_psh_none, ax_psh_some, true_and, and_true, and_false, false_and, not_true_eq_false, not_false_eq_true, true_imp_iff, false_imp_iff, imp_self, or_true, true_or, or_false, false_or, and_self, ite_true, ite_false, if_true, if_false]
    refine fin gi2 _ (fun s a j q1 q2 q3 => (fr s a j q3).trans (hO1 s a j q1 q2 q3)) ⟨(fr 3 t 0 (by omega)).trans v0, (fr 3 t 1 (by omega)).trans v1, (fr 3 t 4 (by omega)).trans v4, hW, hT, hway⟩
  rw [e_Paper_copy, b_Paper_copy_0]
  refine ⟨fun e0 => ?_, fun _ => draw _⟩
  rw [b_Paper_copy_11]
  refine ⟨fun e1 => ?_, fun _ => draw _⟩
  rw [h0] at e0
  rw [h1] at e1
  refine fin gi _ (OnlyP_refl _ _) ?_
  rcases hI with ⟨z0, z1⟩ | ⟨W', T', hP⟩
  · rw [z0, n32_eq (by omega) (by omega)] at e0
    omega
  · have e0' := e0
    rw [hP.1, n32_eq (by have := hP.2.2.2.1; omega) (by omega)] at e0
    rw [hP.2.1, n32_eq (by have := hP.2.2.2.2.1; omega) (by omega)] at e1
    subst e0
    subst e1
    exact hP
theorem Pap_inv {gi : GI} {t W T O : Nat} {b : Nat → Nat} (h : Pap gi t W T O b) : PaperInv gi t := Or.inr ⟨W, T, h.1⟩
/-! how it would be, were a cell put -/
theorem c_unlikeWith (d : Nat) {gi : GI} {g : AG} {Q : Option AV → AH → Prop} (hG : GOK g) {t W T O c p : Nat} {b : Nat → Nat} (h : Pap gi t W T O b) (hc : c < W * T) (hp : p < 10) : ax_call (d + 1) m_Paper_unlikeWith [.inr (.inr (some (3, t))), .inl (n32 c), .inl (n32 p)] (gi, g) Q = Q (some (.inl (n32 (ptsF (W * T) (updB b c p))))) (gi, g) := by
  obtain ⟨hP, -, h3, h54, hb, -, h56⟩ := h
  have h64 := wt64 hP.2.2.2.1.2 hP.2.2.2.2.1.2
  have hbc := hb c hc
  have hpl := pts_le (W * T) b
  by_cases he : b c = p
  · rw [updB_same he]
    simp (disch := omega) only [e_Paper_unlikeWith, b_Paper_unlikeWith_0, b_Paper_unlikeWith_12, b_Paper_unlikeWith_17, b_Paper_unlikeWith_31, b_Paper_unlikeWith_35, b_Paper_unlikeWith_36, b_Paper_unlikeWith_46, b_Paper_unlikeWith_50, b_Paper_unlikeWith_51, G_0_0 hG, G_0_1 hG, G_0_2 hG, G_0_3 hG, G_0_7 hG, G_0_10 hG, G_0_12 hG, G_0_13 hG, G_0_14 hG, G_0_15 hG, G_0_16 hG, G_0_17 hG, G_1_0 hG, G_1_2 hG, G_1_5 hG, G_2_4 hG, G_2_5 hG, G_3_5 hG, G_3_6 hG, G_3_7 hG, G_3_8 hG, G_3_9 hG, G_5_0 hG, G_5_1 hG, G_6_0 hG, G_6_1 hG, G_6_2 hG, G_6_9 hG, G_6_10 hG, G_6_11 hG, G_6_12 hG, G_6_13 hG, G_7_0 hG, G_7_5 hG, G_8_8 hG, G_8_9 hG, G_9_8 hG, G_9_9 hG, G_10_7 hG, G_10_8 hG, G_10_9 hG, G_10_10 hG, G_10_11 hG, G_11_0 hG, G_12_2 hG, G_12_3 hG, G_12_4 hG, G_12_5 hG, G_12_7 hG, G_12_8 hG, G_12_9 hG, G_12_12 hG, G_12_13 hG, G_12_14 hG, G_12_22 hG, G_12_23 hG, G_12_29 hG, G_12_30 hG, G_12_31 hG, G_12_37 hG, G_12_38 hG, G_12_39 hG, G_12_40 hG, G_12_41 hG, G_12_43 hG, G_12_46 hG, G_12_47 hG, G_12_48 hG, G_25 hG, G_26 hG, G_47 hG, G_58 hG, h54 c (by omega), he, h3, n32_add, n32_mul, n32_lt, n32_le, n32_eq, n32_clamp, n32_inT, n32_div, n32_rem, n32_m1, n32_m1', n32_m1lt, n32_ltm1, n32_10, n32_01, Nat.not_lt_zero, Nat.lt_irrefl, Nat.mul_zero, Nat.zero_mul, Nat.zero_add, Nat.add_zero, Nat.reduceEqDiff, Nat.one_ne_zero, Nat.zero_ne_one, ax_psh_none, ax_psh_some, true_and, and_true, and_false, false_and, not_true_eq_false, not_false_eq_true, true_imp_iff, false_imp_iff, imp_self, or_true, true_or, or_false, false_or, and_self, ite_true, ite_false, if_true, if_false]
  · have hu := pts_upd hc hbc hp he
    have hc1 := cnt_le (W * T) b (b c)
    have hc2 := cnt_le (W * T) b p
    have e1 : n32 (ptsF (W * T) b) - n32 0 = n32 (ptsF (W * T) b) := n32_sub (Nat.zero_le _)
    have hpos := cnt_pos (b := b) hc
    have hp1 : 1 ≤ ptsF (W * T) b := by
      have := sumN_ge (f := fun q => if cntF (W * T) b q = 0 then 0 else 1) (n := 10) (i := b c) hbc
      simp only [show ¬ cntF (W * T) b (b c) = 0 by omega, if_false] at this
      exact this
    have e2 : n32 (ptsF (W * T) b) - n32 1 = n32 (ptsF (W * T) b - 1) := n32_sub hp1
    by_cases q1 : cntF (W * T) b (b c) = 1
    · by_cases q2 : cntF (W * T) b p = 0
      · rw [if_pos q1, if_pos q2] at hu
        simp (disch := omega) only [e_Paper_unlikeWith, b_Paper_unlikeWith_0, b_Paper_unlikeWith_12, b_Paper_unlikeWith_17, b_Paper_unlikeWith_31, b_Paper_unlikeWith_35, b_Paper_unlikeWith_36, b_Paper_unlikeWith_46, b_Paper_unlikeWith_50, b_Paper_unlikeWith_51, G_0_0 hG, G_0_1 hG, G_0_2 hG, G_0_3 hG, G_0_7 hG, G_0_10 hG, G_0_12 hG, G_0_13 hG, G_0_14 hG, G_0_15 hG, G_0_16 hG, G_0_17 hG, G_1_0 hG, G_1_2 hG, G_1_5 hG, G_2_4 hG, G_2_5 hG, G_3_5 hG, G_3_6 hG, G_3_7 hG, G_3_8 hG, G_3_9 hG, G_5_0 hG, G_5_1 hG, G_6_0 hG, G_6_1 hG, G_6_2 hG, G_6_9 hG, G_6_10 hG, G_6_11 hG, G_6_12 hG, G_6_13 hG, G_7_0 hG, G_7_5 hG, G_8_8 hG, G_8_9 hG, G_9_8 hG, G_9_9 hG, G_10_7 hG, G_10_8 hG, G_10_9 hG, G_10_10 hG, G_10_11 hG, G_11_0 hG, G_12_2 hG, G_12_3 hG, G_12_4 hG, G_12_5 hG, G_12_7 hG, G_12_8 hG, G_12_9 hG, G_12_12 hG, G_12_13 hG, G_12_14 hG, G_12_22 hG, G_12_23 hG, G_12_29 hG, G_12_30 hG, G_12_31 hG, G_12_37 hG, G_12_38 hG, G_12_39 hG, G_12_40 hG, G_12_41 hG, G_12_43 hG, G_12_46 hG, G_12_47 hG, G_12_48 hG, G_25 hG, G_26 hG, G_47 hG, G_58 hG, h54 c (by omega), he, h3, h56 _ hbc, h56 p hp, q1, q2, e2, n32_add, n32_mul, n32_lt, n32_le, n32_eq, n32_clamp, n32_inT, n32_div, n32_rem, n32_m1, n32_m1', n32_m1lt, n32_ltm1, n32_10, n32_01, Nat.not_lt_zero, Nat.lt_irrefl, Nat.mul_zero, Nat.zero_mul, Nat.zero_add, Nat.add_zero, Nat.reduceEqDiff, Nat.one_ne_zero, Nat.zero_ne_one, ax_psh_none, ax_psh_some, true_and, and_true, and_false, false_and, not_true_eq_false, not_false_eq_true, true_imp_iff, false_imp_iff, imp_self, or_true, true_or, or_false, false_or, and_self, ite_true, ite_false, if_true, if_false]
        congr 4
        omega
      · rw [if_pos q1, if_neg q2] at hu
        simp (disch := omega) only [e_Paper_unlikeWith, b_Paper_unlikeWith_0, b_Paper_unlikeWith_12, b_Paper_unlikeWith_17, b_Paper_unlikeWith_31, b_Paper_unlikeWith_35, b_Paper_unlikeWith_36, b_Paper_unlikeWith_46, b_Paper_unlikeWith_50, b_Paper_unlikeWith_51, G_0_0 hG, G_0_1 hG, G_0_2 hG, G_0_3 hG, G_0_7 hG, G_0_10 hG, G_0_12 hG, G_0_13 hG, G_0_14 hG, G_0_15 hG, G_0_16 hG, G_0_17 hG, G_1_0 hG, G_1_2 hG, G_1_5 hG, G_2_4 hG, G_2_5 hG, G_3_5 hG, G_3_6 hG, G_3_7 hG, G_3_8 hG, G_3_9 hG, G_5_0 hG, G_5_1 hG, G_6_0 hG, G_6_1 hG, G_6_2 hG, G_6_9 hG, G_6_10 hG, G_6_11 hG, G_6_12 hG, G_6_13 hG, G_7_0 hG, G_7_5 hG, G_8_8 hG, G_8_9 hG, G_9_8 hG, G_9_9 hG, G_10_7 hG, G_10_8 hG, G_10_9 hG, G_10_10 hG, G_10_11 hG, G_11_0 hG, G_12_2 hG, G_12_3 hG, G_12_4 hG, G_12_5 hG, G_12_7 hG, G_12_8 hG, G_12_9 hG, G_12_12 hG, G_12_13 hG, G_12_14 hG, G_12_22 hG, G_12_23 hG, G_12_29 hG, G_12_30 hG, G_12_31 hG, G_12_37 hG, G_12_38 hG, G_12_39 hG, G_12_40 hG, G_12_41 hG, G_12_43 hG, G_12_46 hG, G_12_47 hG, G_12_48 hG, G_25 hG, G_26 hG, G_47 hG, G_58 hG, h54 c (by omega), he, h3, h56 _ hbc, h56 p hp, q1, q2, e2, n32_add, n32_mul, n32_lt, n32_le, n32_eq, n32_clamp, n32_inT, n32_div, n32_rem, n32_m1, n32_m1', n32_m1lt, n32_ltm1, n32_10, n32_01, Nat.not_lt_zero, Nat.lt_irrefl, Nat.mul_zero, Nat.zero_mul, Nat.zero_add, Nat.add_zero, Nat.reduceEqDiff, Nat.one_ne_zero, Nat.zero_ne_one, ax_psh_none, ax_psh_some, true_and, and_true, and_false, false_and, not_true_eq_false, not_false_eq_true, true_imp_iff, false_imp_iff, imp_self, or_true, true_or, or_false, false_or, and_self, ite_true, ite_false, if_true, if_false]
        congr 4
        omega
    · by_cases q2 : cntF (W * T) b p = 0
      · rw [if_neg q1, if_pos q2] at hu
        simp (disch := omega) only [e_Paper_unlikeWith, b_Paper_unlikeWith_0, b_Paper_unlikeWith_12, b_Paper_unlikeWith_17, b_Paper_unlikeWith_31, b_Paper_unlikeWith_35, b_Paper_unlikeWith_36, b_Paper_unlikeWith_46, b_Paper_unlikeWith_50, b_Paper_unlikeWith_51, G_0_0 hG, G_0_1 hG, G_0_2 hG, G_0_3 hG, G_0_7 hG, G_0_10 hG, G_0_12 hG, G_0_13 hG, G_0_14 hG, G_0_15 hG, G_0_16 hG, G_0_17 hG, G_1_0 hG, G_1_2 hG, G_1_5 hG, G_2_4 hG, G_2_5 hG, G_3_5 hG, G_3_6 hG, G_3_7 hG, G_3_8 hG, G_3_9 hG, G_5_0 hG, G_5_1 hG, G_6_0 hG, G_6_1 hG, G_6_2 hG, G_6_9 hG, G_6_10 hG, G_6_11 hG, G_6_12 hG, G_6_13 hG, G_7_0 hG, G_7_5 hG, G_8_8 hG, G_8_9 hG, G_9_8 hG, G_9_9 hG, G_10_7 hG, G_10_8 hG, G_10_9 hG, G_10_10 hG, G_10_11 hG, G_11_0 hG, G_12_2 hG, G_12_3 hG, G_12_4 hG, G_12_5 hG, G_12_7 hG, G_12_8 hG, G_12_9 hG, G_12_12 hG, G_12_13 hG, G_12_14 hG, G_12_22 hG, G_12_23 hG, G_12_29 hG, G_12_30 hG, G_12_31 hG, G_12_37 hG, G_12_38 hG, G_12_39 hG, G_12_40 hG, G_12_41 hG, G_12_43 hG, G_12_46 hG, G_12_47 hG, G_12_48 hG, G_25 hG, G_26 hG, G_47 hG, G_58 hG, h54 c (by omega), he, h3, h56 _ hbc, h56 p hp, q1, q2, e1, n32_add, n32_mul, n32_lt, n32_le, n32_eq, n32_clamp, n32_inT, n32_div, n32_rem, n32_m1, n32_m1', n32_m1lt, n32_ltm1, n32_10, n32_01, Nat.not_lt_zero, Nat.lt_irrefl, Nat.mul_zero, Nat.zero_mul, Nat.zero_add, Nat.add_zero, Nat.reduceEqDiff, Nat.one_ne_zero, Nat.zero_ne_one, ax_psh_none, ax_psh_some, true_and, and_true, and_false, false_and, not_true_eq_false, not_false_eq_true, true_imp_iff, false_imp_iff, imp_self, or_true, true_or, or_false, false_or, and_self, ite_true, ite_false, if_true, if_false]
        congr 4
        omega
      · rw [if_neg q1, if_neg q2] at hu
        simp (disch := omega) only [e_Paper_unlikeWith, b_Paper_unlikeWith_0, b_Paper_unlikeWith_12, b_Paper_unlikeWith_17, b_Paper_unlikeWith_31, b_Paper_unlikeWith_35, b_Paper_unlikeWith_36, b_Paper_unlikeWith_46, b_Paper_unlikeWith_50, b_Paper_unlikeWith_51, G_0_0 hG, G_0_1 hG, G_0_2 hG, G_0_3 hG, G_0_7 hG, G_0_10 hG, G_0_12 hG, G_0_13 hG, G_0_14 hG, G_0_15 hG, G_0_16 hG, G_0_17 hG, G_1_0 hG, G_1_2 hG, G_1_5 hG, G_2_4 hG, G_2_5 hG, G_3_5 hG, G_3_6 hG, G_3_7 hG, G_3_8 hG, G_3_9 hG, G_5_0 hG, G_5_1 hG, G_6_0 hG, G_6_1 hG, G_6_2 hG, G_6_9 hG, G_6_10 hG, G_6_11 hG, G_6_12 hG, G_6_13 hG, G_7_0 hG, G_7_5 hG, G_8_8 hG, G_8_9 hG, G_9_8 hG, G_9_9 hG, G_10_7 hG, G_10_8 hG, G_10_9 hG, G_10_10 hG, G_10_11 hG, G_11_0 hG, G_12_2 hG, G_12_3 hG, G_12_4 hG, G_12_5 hG, G_12_7 hG, G_12_8 hG, G_12_9 hG, G_12_12 hG, G_12_13 hG, G_12_14 hG, G_12_22 hG, G_12_23 hG, G_12_29 hG, G_12_30 hG, G_12_31 hG, G_12_37 hG, G_12_38 hG, G_12_39 hG, G_12_40 hG, G_12_41 hG, G_12_43 hG, G_12_46 hG, G_12_47 hG, G_12_48 hG, G_25 hG, G_26 hG, G_47 hG, G_58 hG, h54 c (by omega), he, h3, h56 _ hbc, h56 p hp, q1, q2, e1, n32_add, n32_mul, n32_lt, n32_le, n32_eq, n32_clamp, n32_inT, n32_div, n32_rem, n32_m1, n32_m1', n32_m1lt, n32_ltm1, n32_10, n32_01, Nat.not_lt_zero, Nat.lt_irrefl, Nat.mul_zero, Nat.zero_mul, Nat.zero_add, Nat.add_zero, Nat.reduceEqDiff, Nat.one_ne_zero, Nat.zero_ne_one, ax_psh_none, ax_psh_some, true_and, and_true, and_false, false_and, not_true_eq_false, not_false_eq_true, true_imp_iff, false_imp_iff, imp_self, or_true, true_or, or_false, false_or, and_self, ite_true, ite_false, if_true, if_false]
        congr 4
        omega
theorem c_offWith (d : Nat) {gi : GI} {g : AG} {Q : Option AV → AH → Prop} (hG : GOK g) {t W T c p l : Nat} {b : Nat → Nat} (ht6 : t < 6) (hP : PapW gi t W T) (h54 : ∀ c, c < 64 → gi 54 t c = n32 (b c)) (hb : BrdOK W T b) (ho : gi 55 t l = n32 (offF W T b l)) (hl : l < likes W T) (hc : c < W * T) (hp : p < 10) : ax_call (d + 1) m_Paper_offWith [.inr (.inr (some (3, t))), .inl (n32 l), .inl (n32 c), .inl (n32 p)] (gi, g) Q = Q (some (.inl (n32 (offF W T (updB b c p) l)))) (gi, g) := by
  obtain ⟨hw, ht, hlk, hW, hT, hway⟩ := hP
  have h64 := wt64 hW.2 hT.2
  have hl6 : l < 6 := by have := likes_36 W T; omega
  have hF := isF_like hl
  have ew : wayF W T l = l := by unfold wayF; rw [if_pos hF]
  have hwl := hway l (by omega) c hc
  rw [ew] at hwl
  have htk := tk_lt hW.2 hT.2 (by omega) hF hc
  have hole := off_le W T b l
  by_cases hfix : tk W T l c = c
  · rw [off_upd_fix hW.2 hT.2 hl hc hfix]
    simp (disch := omega) only [b_Paper_offWith_0, b_Paper_offWith_16, e_Paper_offWith, G_0_0 hG, G_0_1 hG, G_0_2 hG, G_0_3 hG, G_0_7 hG, G_0_10 hG, G_0_12 hG, G_0_13 hG, G_0_14 hG, G_0_15 hG, G_0_16 hG, G_0_17 hG, G_1_0 hG, G_1_2 hG, G_1_5 hG, G_2_4 hG, G_2_5 hG, G_3_5 hG, G_3_6 hG, G_3_7 hG, G_3_8 hG, G_3_9 hG, G_5_0 hG, G_5_1 hG, G_6_0 hG, G_6_1 hG, G_6_2 hG, G_6_9 hG, G_6_10 hG, G_6_11 hG, G_6_12 hG, G_6_13 hG, G_7_0 hG, G_7_5 hG, G_8_8 hG, G_8_9 hG, G_9_8 hG, G_9_9 hG, G_10_7 hG, G_10_8 hG, G_10_9 hG, G_10_10 hG, G_10_11 hG, G_11_0 hG, G_12_2 hG, G_12_3 hG, G_12_4 hG, G_12_5 hG, G_12_7 hG, G_12_8 hG, G_12_9 hG, G_12_12 hG, G_12_13 hG, G_12_14 hG, G_12_22 hG, G_12_23 hG, G_12_29 hG, G_12_30 hG, G_12_31 hG, G_12_37 hG, G_12_38 hG, G_12_39 hG, G_12_40 hG, G_12_41 hG, G_12_43 hG, G_12_46 hG, G_12_47 hG, G_12_48 hG, G_25 hG, G_26 hG, G_47 hG, G_58 hG, hwl, hfix, ho, n32_add, n32_mul, n32_lt, n32_le, n32_eq, n32_clamp, n32_inT, n32_div, n32_rem, n32_m1, n32_m1', n32_m1lt, n32_ltm1, n32_10, n32_01, Nat.not_lt_zero, Nat.lt_irrefl, Nat.mul_zero, Nat.zero_mul, Nat.zero_add, Nat.add_zero, Nat.reduceEqDiff, Nat.one_ne_zero, Nat.zero_ne_one, ax_psh_none, ax_psh_some, true_and, and_true, and_false, false_and, not_true_eq_false, not_false_eq_true, true_imp_iff, false_imp_iff, imp_self, or_true, true_or, or_false, false_or, and_self, ite_true, ite_false, if_true, if_false]
  · obtain ⟨hu, hge⟩ := off_upd (p := p) (b := b) hW.2 hT.2 hl hc hfix
    obtain ⟨hb1, -, -⟩ := tkb_ok hW.2 hT.2 hl hc
    have bc := hb c hc
    have bn := hb _ htk
    have bl := hb _ hb1
    have sub1 : ∀ x y : Nat, n32 x - n32 y = n32 (x - y) ∨ x < y := fun x y => by
      rcases Nat.lt_or_ge x y with z | z
      · exact Or.inr z
      · exact Or.inl (n32_sub z)
    -- the end, the last one known
    have fin : ∀ o2 o4 o7, Runs d (m_Paper_offWith, 64, [some (.inr (.inr (some (3, t)))), some (.inl (n32 l)), o2, some (.inl (n32 p)), o4, some (.inl (n32 (b c))), some (.inl (n32 (b (tk W T l c)))), o7], [.inl (n32 (b (tkb W T l c)))]) (gi, g) Q = Q (some (.inl (n32 (offF W T (updB b c p) l)))) (gi, g) := by
      intro o2 o4 o7
      have s1 : Runs d (m_Paper_offWith, 64, [some (.inr (.inr (some (3, t)))), some (.inl (n32 l)), o2, some (.inl (n32 p)), o4, some (.inl (n32 (b c))), some (.inl (n32 (b (tk W T l c)))), o7], [.inl (n32 (b (tkb W T l c)))]) (gi, g) Q = Runs d (m_Paper_offWith, 83, [some (.inr (.inr (some (3, t)))), some (.inl (n32 l)), o2, some (.inl (n32 p)), o4, some (.inl (n32 (b c))), some (.inl (n32 (b (tk W T l c)))), some (.inl (n32 (b (tkb W T l c))))], [.inl (n32 (nq p (b (tk W T l c)))), .inl (n32 (offF W T b l))]) (gi, g) Q := by
        unfold nq
        by_cases z : p = b (tk W T l c)
        · simp (disch := omega) only [b_Paper_offWith_64, b_Paper_offWith_78, G_0_0 hG, G_0_1 hG, G_0_2 hG, G_0_3 hG, G_0_7 hG, G_0_10 hG, G_0_12 hG, G_0_13 hG, G_0_14 hG, G_0_15 hG, G_0_16 hG, G_0_17 hG, G_1_0 hG, G_1_2 hG, G_1_5 hG, G_2_4 hG, G_2_5 hG, G_3_5 hG, G_3_6 hG, G_3_7 hG, G_3_8 hG, G_3_9 hG, G_5_0 hG, G_5_1 hG, G_6_0 hG, G_6_1 hG, G_6_2 hG, G_6_9 hG, G_6_10 hG, G_6_11 hG, G_6_12 hG, G_6_13 hG, G_7_0 hG, G_7_5 hG, G_8_8 hG, G_8_9 hG, G_9_8 hG, G_9_9 hG, G_10_7 hG, G_10_8 hG, G_10_9 hG, G_10_10 hG, G_10_11 hG, G_11_0 hG, G_12_2 hG, G_12_3 hG, G_12_4 hG, G_12_5 hG, G_12_7 hG, G_12_8 hG, G_12_9 hG, G_12_12 hG, G_12_13 hG, G_12_14 hG, G_12_22 hG, G_12_23 hG, G_12_29 hG, G_12_30 hG, G_12_31 hG, G_12_37 hG, G_12_38 hG, G_12_39 hG, G_12_40 hG, G_12_41 hG, G_12_43 hG, G_12_46 hG, G_12_47 hG, G_12_48 hG, G_25 hG, G_26 hG, G_47 hG, G_58 hG, ho, z, n32_add, n32_mul, n32_lt, n32_le, n32_eq, n32_clamp, n32_inT, n32_div, n32_rem, n32_m1, n32_m1', n32_m1lt, n32_ltm1, n32_10, n32_01, Nat.not_lt_zero, Nat.lt_irrefl, Nat.mul_zero, Nat.zero_mul, Nat.zero_add, Nat.add_zero, Nat.reduceEqDiff, Nat.one_ne_zero, Nat.zero_ne_one, ax_psh_none, ax_psh_some, true_and, and_true, and_false, false_and, not_true_eq_false, not_false_eq_true, true_imp_iff, false_imp_iff, imp_self, or_true, true_or, or_false, false_or, and_self, ite_true, ite_false, if_true, if_false]
        · simp (disch := omega) only [b_Paper_offWith_64, b_Paper_offWith_82, G_0_0 hG, G_0_1 hG, G_0_2 hG, G_0_3 hG, G_0_7 hG, G_0_10 hG, G_0_12 hG, G_0_13 hG, G_0_14 hG, G_0_15 hG, G_0_16 hG, G_0_17 hG, G_1_0 hG, G_1_2 hG, G_1_5 hG, G_2_4 hG, G_2_5 hG, G_3_5 hG, G_3_6 hG, G_3_7 hG, G_3_8 hG, G_3_9 hG, G_5_0 hG, G_5_1 hG, G_6_0 hG, G_6_1 hG, G_6_2 hG, G_6_9 hG, G_6_10 hG, G_6_11 hG, G_6_12 hG, G_6_13 hG, G_7_0 hG, G_7_5 hG, G_8_8 hG, G_8_9 hG, G_9_8 hG, G_9_9 hG, G_10_7 hG, G_10_8 hG, G_10_9 hG, G_10_10 hG, G_10_11 hG, G_11_0 hG, G_12_2 hG, G_12_3 hG, G_12_4 hG, G_12_5 hG, G_12_7 hG, G_12_8 hG, G_12_9 hG, G_12_12 hG, G_12_13 hG, G_12_14 hG, G_12_22 hG, G_12_23 hG, G_12_29 hG, G_12_30 hG, G_12_31 hG, G_12_37 hG, G_12_38 hG, G_12_39 hG, G_12_40 hG, G_12_41 hG, G_12_43 hG, G_12_46 hG, G_12_47 hG, G_12_48 hG, G_25 hG, G_26 hG, G_47 hG, G_58 hG, ho, z, n32_add, n32_mul, n32_lt, n32_le, n32_eq, n32_clamp, n32_inT, n32_div, n32_rem, n32_m1, n32_m1', n32_m1lt, n32_ltm1, n32_10, n32_01, Nat.not_lt_zero, Nat.lt_irrefl, Nat.mul_zero, Nat.zero_mul, Nat.zero_add, Nat.add_zero, Nat.reduceEqDiff, Nat.one_ne_zero, Nat.zero_ne_one, ax_psh_none, ax_psh_some, true_and, and_true, and_false, false_and, not_true_eq_false, not_false_eq_true, true_imp_iff, false_imp_iff, imp_self, or_true, true_or, or_false, false_or, and_self, ite_true, ite_false, if_true, if_false]
      have s2 : ∀ k Y o0 o1, Runs d (m_Paper_offWith, 83, [o0, o1, o2, some (.inl (n32 p)), o4, some (.inl (n32 (b c))), some (.inl (n32 (b (tk W T l c)))), some (.inl (n32 (b (tkb W T l c))))], [.inl (n32 k), .inl (n32 Y)]) (gi, g) Q = Runs d (m_Paper_offWith, 95, [o0, o1, o2, some (.inl (n32 p)), o4, some (.inl (n32 (b c))), some (.inl (n32 (b (tk W T l c)))), some (.inl (n32 (b (tkb W T l c))))], [.inl (n32 (nq p (b (tkb W T l c)))), .inl (n32 (Y + k))]) (gi, g) Q := by
        intro k Y o0 o1
        unfold nq
        by_cases z : p = b (tkb W T l c)
        · simp (disch := omega) only [b_Paper_offWith_83, b_Paper_offWith_90, z, n32_add, n32_mul, n32_lt, n32_le, n32_eq, n32_clamp, n32_inT, n32_div, n32_rem, n32_m1, n32_m1', n32_m1lt, n32_ltm1, n32_10, n32_01, Nat.not_lt_zero, Nat.lt_irrefl, Nat.mul_zero, Nat.zero_mul, Nat.zero_add, Nat.add_zero, Nat.reduceEqDiff, Nat.one_ne_zero, Nat.zero_ne_one, ax_psh_none, ax_psh_some, true_and, and_true, and_false, false_and, not_true_eq_false, not_false_eq_true, true_imp_iff, false_imp_iff, imp_self, or_true, true_or, or_false, false_or, and_self, ite_true, ite_false, if_true, if_false]
        · simp (disch := omega) only [b_Paper_offWith_83, b_Paper_offWith_94, z, n32_add, n32_mul, n32_lt, n32_le, n32_eq, n32_clamp, n32_inT, n32_div, n32_rem, n32_m1, n32_m1', n32_m1lt, n32_ltm1, n32_10, n32_01, Nat.not_lt_zero, Nat.lt_irrefl, Nat.mul_zero, Nat.zero_mul, Nat.zero_add, Nat.add_zero, Nat.reduceEqDiff, Nat.one_ne_zero, Nat.zero_ne_one, ax_psh_none, ax_psh_some, true_and, and_true, and_false, false_and, not_true_eq_false, not_false_eq_true, true_imp_iff, false_imp_iff, imp_self, or_true, true_or, or_false, false_or, and_self, ite_true, ite_false, if_true, if_false]
      have s3 : ∀ k Y o0 o1 o3, Runs d (m_Paper_offWith, 95, [o0, o1, o2, o3, o4, some (.inl (n32 (b c))), some (.inl (n32 (b (tk W T l c)))), some (.inl (n32 (b (tkb W T l c))))], [.inl (n32 k), .inl (n32 Y)]) (gi, g) Q = Runs d (m_Paper_offWith, 108, [o0, o1, o2, o3, o4, some (.inl (n32 (b c))), some (.inl (n32 (b (tk W T l c)))), some (.inl (n32 (b (tkb W T l c))))], [.inl (n32 (nq (b c) (b (tk W T l c)))), .inl (n32 (Y + k))]) (gi, g) Q := by
        intro k Y o0 o1 o3
        unfold nq
        by_cases z : b c = b (tk W T l c)
        · simp (disch := omega) only [b_Paper_offWith_95, b_Paper_offWith_103, z, n32_add, n32_mul, n32_lt, n32_le, n32_eq, n32_clamp, n32_inT, n32_div, n32_rem, n32_m1, n32_m1', n32_m1lt, n32_ltm1, n32_10, n32_01, Nat.not_lt_zero, Nat.lt_irrefl, Nat.mul_zero, Nat.zero_mul, Nat.zero_add, Nat.add_zero, Nat.reduceEqDiff, Nat.one_ne_zero, Nat.zero_ne_one, ax_psh_none, ax_psh_some, true_and, and_true, and_false, false_and, not_true_eq_false, not_false_eq_true, true_imp_iff, false_imp_iff, imp_self, or_true, true_or, or_false, false_or, and_self, ite_true, ite_false, if_true, if_false]
        · simp (disch := omega) only [b_Paper_offWith_95, b_Paper_offWith_107, z, n32_add, n32_mul, n32_lt, n32_le, n32_eq, n32_clamp, n32_inT, n32_div, n32_rem, n32_m1, n32_m1', n32_m1lt, n32_ltm1, n32_10, n32_01, Nat.not_lt_zero, Nat.lt_irrefl, Nat.mul_zero, Nat.zero_mul, Nat.zero_add, Nat.add_zero, Nat.reduceEqDiff, Nat.one_ne_zero, Nat.zero_ne_one, ax_psh_none, ax_psh_some, true_and, and_true, and_false, false_and, not_true_eq_false, not_false_eq_true, true_imp_iff, false_imp_iff, imp_self, or_true, true_or, or_false, false_or, and_self, ite_true, ite_false, if_true, if_false]
      have s4 : ∀ k Y o0 o1 o3 o6, k ≤ Y → nq (b c) (b (tkb W T l c)) ≤ Y - k → Runs d (m_Paper_offWith, 108, [o0, o1, o2, o3, o4, some (.inl (n32 (b c))), o6, some (.inl (n32 (b (tkb W T l c))))], [.inl (n32 k), .inl (n32 Y)]) (gi, g) Q = Q (some (.inl (n32 (Y - k - nq (b c) (b (tkb W T l c)))))) (gi, g) := by
        intro k Y o0 o1 o3 o6 hk hk2
        unfold nq at hk2 ⊢
        by_cases z : b c = b (tkb W T l c)
        · simp (disch := omega) only [b_Paper_offWith_108, b_Paper_offWith_116, b_Paper_offWith_121, n32_sub, z, n32_add, n32_mul, n32_lt, n32_le, n32_eq, n32_clamp, n32_inT, n32_div, n32_rem, n32_m1, n32_m1', n32_m1lt, n32_ltm1, n32_10, n32_01, Nat.not_lt_zero, Nat.lt_irrefl, Nat.mul_zero, Nat.zero_mul, Nat.zero_add, Nat.add_zero, Nat.reduceEqDiff, Nat.one_ne_zero, Nat.zero_ne_one, ax_psh_none, ax_psh_some, true_and, and_true, and_false, false_and, not_true_eq_false, not_false_eq_true, true_imp_iff, false_imp_iff, imp_self, or_true, true_or, or_false, false_or, and_self, ite_true, ite_false, if_true, if_false]
        · rw [if_neg z] at hk2
          simp (disch := omega) only [b_Paper_offWith_108, b_Paper_offWith_120, b_Paper_offWith_121, n32_sub, z, n32_add, n32_mul, n32_lt, n32_le, n32_eq, n32_clamp, n32_inT, n32_div, n32_rem, n32_m1, n32_m1', n32_m1lt, n32_ltm1, n32_10, n32_01, Nat.not_lt_zero, Nat.lt_irrefl, Nat.mul_zero, Nat.zero_mul, Nat.zero_add, Nat.add_zero, Nat.reduceEqDiff, Nat.one_ne_zero, Nat.zero_ne_one, ax_psh_none, ax_psh_some, true_and, and_true, and_false, false_and, not_true_eq_false, not_false_eq_true, true_imp_iff, false_imp_iff, imp_self, or_true, true_or, or_false, false_or, and_self, ite_true, ite_false, if_true, if_false]
      rw [s1, s2, s3, s4 _ _ _ _ _ _ (by omega) (by omega)]
      congr 4
      omega
    by_cases h5 : l = 5
    · subst h5
      have e7 : wayF W T 7 = 7 := by
        unfold wayF
        rw [if_pos]
        unfold likes at hl
        split at hl
        · rename_i z
          simp [isF, z]
        · omega
      have hw7 := hway 7 (by omega) c hc
      rw [e7] at hw7
      have et : tkb W T 5 c = tk W T 7 c := by unfold tkb; rw [if_pos rfl]
      rw [et] at fin hb1 bl
      simp (disch := omega) only [b_Paper_offWith_0, b_Paper_offWith_23, b_Paper_offWith_45, e_Paper_offWith, G_0_0 hG, G_0_1 hG, G_0_2 hG, G_0_3 hG, G_0_7 hG, G_0_10 hG, G_0_12 hG, G_0_13 hG, G_0_14 hG, G_0_15 hG, G_0_16 hG, G_0_17 hG, G_1_0 hG, G_1_2 hG, G_1_5 hG, G_2_4 hG, G_2_5 hG, G_3_5 hG, G_3_6 hG, G_3_7 hG, G_3_8 hG, G_3_9 hG, G_5_0 hG, G_5_1 hG, G_6_0 hG, G_6_1 hG, G_6_2 hG, G_6_9 hG, G_6_10 hG, G_6_11 hG, G_6_12 hG, G_6_13 hG, G_7_0 hG, G_7_5 hG, G_8_8 hG, G_8_9 hG, G_9_8 hG, G_9_9 hG, G_10_7 hG, G_10_8 hG, G_10_9 hG, G_10_10 hG, G_10_11 hG, G_11_0 hG, G_12_2 hG, G_12_3 hG, G_12_4 hG, G_12_5 hG, G_12_7 hG, G_12_8 hG, G_12_9 hG, G_12_12 hG, G_12_13 hG, G_12_14 hG, G_12_22 hG, G_12_23 hG, G_12_29 hG, G_12_30 hG, G_12_31 hG, G_12_37 hG, G_12_38 hG, G_12_39 hG, G_12_40 hG, G_12_41 hG, G_12_43 hG, G_12_46 hG, G_12_47 hG, G_12_48 hG, G_25 hG, G_26 hG, G_47 hG, G_58 hG, hwl, hfix, h54 c (by omega), h54 _ (by omega : tk W T 5 c < 64), hw7, h54 _ (by omega : tk W T 7 c < 64), n32_add, n32_mul, n32_lt, n32_le, n32_eq, n32_clamp, n32_inT, n32_div, n32_rem, n32_m1, n32_m1', n32_m1lt, n32_ltm1, n32_10, n32_01, Nat.not_lt_zero, Nat.lt_irrefl, Nat.mul_zero, Nat.zero_mul, Nat.zero_add, Nat.add_zero, Nat.reduceEqDiff, Nat.one_ne_zero, Nat.zero_ne_one, ax_psh_none, ax_psh_some, true_and, and_true, and_false, false_and, not_true_eq_false, not_false_eq_true, true_imp_iff, false_imp_iff, imp_self, or_true, true_or, or_false, false_or, and_self, ite_true, ite_false, if_true, if_false]
      exact fin _ _ _
    · have et : tkb W T l c = tk W T l c := by unfold tkb; rw [if_neg h5]
      rw [et] at fin
      simp (disch := omega) only [b_Paper_offWith_0, b_Paper_offWith_23, b_Paper_offWith_62, e_Paper_offWith, G_0_0 hG, G_0_1 hG, G_0_2 hG, G_0_3 hG, G_0_7 hG, G_0_10 hG, G_0_12 hG, G_0_13 hG, G_0_14 hG, G_0_15 hG, G_0_16 hG, G_0_17 hG, G_1_0 hG, G_1_2 hG, G_1_5 hG, G_2_4 hG, G_2_5 hG, G_3_5 hG, G_3_6 hG, G_3_7 hG, G_3_8 hG, G_3_9 hG, G_5_0 hG, G_5_1 hG, G_6_0 hG, G_6_1 hG, G_6_2 hG, G_6_9 hG, G_6_10 hG, G_6_11 hG, G_6_12 hG, G_6_13 hG, G_7_0 hG, G_7_5 hG, G_8_8 hG, G_8_9 hG, G_9_8 hG, G_9_9 hG, G_10_7 hG, G_10_8 hG, G_10_9 hG, G_10_10 hG, G_10_11 hG, G_11_0 hG, G_12_2 hG, G_12_3 hG, G_12_4 hG, G_12_5 hG, G_12_7 hG, G_12_8 hG, G_12_9 hG, G_12_12 hG, G_12_13 hG, G_12_14 hG, G_12_22 hG, G_12_23 hG, G_12_29 hG, G_12_30 hG, G_12_31 hG, G_12_37 hG, G_12_38 hG, G_12_39 hG, G_12_40 hG, G_12_41 hG, G_12_43 hG, G_12_46 hG, G_12_47 hG, G_12_48 hG, G_25 hG, G_26 hG, G_47 hG, G_58 hG, hwl, hfix, h5, h54 c (by omega), h54 _ (by omega : tk W T l c < 64), n32_add, n32_mul, n32_lt, n32_le, n32_eq, n32_clamp, n32_inT, n32_div, n32_rem, n32_m1, n32_m1', n32_m1lt, n32_ltm1, n32_10, n32_01, Nat.not_lt_zero, Nat.lt_irrefl, Nat.mul_zero, Nat.zero_mul, Nat.zero_add, Nat.add_zero, Nat.reduceEqDiff, Nat.one_ne_zero, Nat.zero_ne_one, ax_psh_none, ax_psh_some, true_and, and_true, and_false, false_and, not_true_eq_false, not_false_eq_true, true_imp_iff, false_imp_iff, imp_self, or_true, true_or, or_false, false_or, and_self, ite_true, ite_false, if_true, if_false]
      exact fin _ _ _
