/-! the reference's going through: numbers -/
def Dead (gi : GI) (live : Int32) : Prop := (gi 12 0 21 = n32 0 ∨ gi 12 0 21 = n32 1) ∧ (live = n32 0 ∨ live = n32 1) ∧ (live = n32 0 ∨ gi 12 0 21 = n32 1)
theorem Dead_eq {gi gi' : GI} {live : Int32} (h : Dead gi live) (e : gi' 12 0 21 = gi 12 0 21) : Dead gi' live := by
  unfold Dead at *
  rw [e]
  exact h
/-- what is not asked: passed over -/
def EvD (c v : Nat → Nat) (N : Nat) (it : PI Int) (mt h : Nat) : Prop :=
  ∀ (D b : Nat) (e : Nat → Int) (gi : GI) (g : AG) (Q : Option AV → AH → Prop) (a p s a' p' : Nat) (k : List (Nat × Nat)) (m : (Nat → Int) → Option Int) (live : Int32), h ≤ D → GOK g → EC gi c v N b e → gi 12 0 19 = n32 (b + a) → a ≤ N → it a p s = .inr (a', p', k, m) → Dead gi live →
  (∀ gi', Fr evMod gi gi' → gi' 12 0 19 = n32 (b + a') → gi' 12 0 21 = gi 12 0 21 → Q (some (.inr (.inl (lv 0)))) (gi', g)) →
  ax_call D mt [.inr (.inr (some (12, 0))), .inl live] (gi, g) Q
/-- what is asked -/
def EvA (c v : Nat → Nat) (N : Nat) (it : PI Int) (mt h : Nat) : Prop :=
  ∀ (D b : Nat) (e : Nat → Int) (gi : GI) (g : AG) (Q : Option AV → AH → Prop) (a p s a' p' : Nat) (k : List (Nat × Nat)) (m : (Nat → Int) → Option Int), h ≤ D → GOK g → EC gi c v N b e → gi 12 0 19 = n32 (b + a) → a ≤ N → it a p s = .inr (a', p', k, m) → gi 12 0 21 = n32 0 →
  (∀ x gi', m e = some x → Bd x → Fr evMod gi gi' → gi' 12 0 19 = n32 (b + a') → gi' 12 0 21 = n32 0 → Q (some (.inr (.inl (lv x)))) (gi', g)) →
  (∀ gi', m e = none → Fr evMod gi gi' → gi' 12 0 19 = n32 (b + a') → gi' 12 0 21 = n32 1 → Q (some (.inr (.inl (lv 0)))) (gi', g)) →
  ax_call D mt [.inr (.inr (some (12, 0))), .inl (n32 1)] (gi, g) Q
theorem ww19 (gi : GI) (x y : Int32) : ax_wI (ax_wI gi 12 0 19 x) 12 0 19 y = ax_wI gi 12 0 19 y := by
  funext s a j
  simp only [wI_at]
  split <;> rfl
/-! brackets and leaves -/
theorem ev_part_d {c v : Nat → Nat} {N h : Nat} {inn : PI Int} (hc : ∀ a, N ≤ a → c a = 0) (hib : IB N inn) (hi : EvD c v N inn m_M_sumOf h) (hh : 2 ≤ h) : EvD c v N (pBra c v inn) m_M_partOf (h + 1) := by
  intro D b e gi g Q a p s a' p' k m live hD hG hE hgo haN hk hd hq
  obtain ⟨d, rfl⟩ : ∃ d2, D = d2 + 3 := ⟨D - 3, by omega⟩
  have hN : N ≤ 400 := hE.1
  rw [e_M_partOf]
  by_cases hb : c a = 191
  · have haN1 := c_lt hc hb (by decide)
    have fr1 : Fr evMod gi (ax_wI gi 12 0 19 (n32 (b + (a + 1)))) := Fr_wI (Fr_refl _ _) rfl
    match hk1 : inn (a + 1) p s with
    | .inl f =>
      simp only [pBra, hb, if_true, hk1] at hk
      exact absurd hk (by simp)
    | .inr (a1, p1, kk, mm) =>
      have q1 := hib _ _ _ _ _ _ _ haN1 hk1
      by_cases hc2 : c a1 = 193
      · simp only [pBra, hb, if_true, hk1, hc2, Sum.inr.injEq, Prod.mk.injEq] at hk
        obtain ⟨rfl, rfl, rfl, rfl⟩ := hk
        simp only [b_M_partOf_0, b_M_partOf_6, b_M_partOf_9, b_M_partOf_12, c_M_sign, c_passes_y _ hG hE (by omega) hgo (x := 100 + 91) hb, n32_10, ax_psh_none, ax_psh_some, true_and, and_true, and_false, false_and, not_true_eq_false, not_false_eq_true, true_imp_iff, false_imp_iff, imp_self, or_true, true_or, or_false, false_or, and_self, ite_true, ite_false, if_true, if_false]
        apply hi (d + 2) b e _ g _ (a + 1) p s a1 p1 kk mm live (by omega) hG (EC_fr hE fr1) (by simp [wI_at]) haN1 hk1 (Dead_eq hd (by simp [wI_at]))
        intro gi' fr hgo' h21
        simp only [b_M_partOf_17, hgo', n32_add, ax_psh_none, ax_psh_some, true_and, and_true, and_false, false_and, not_true_eq_false, not_false_eq_true, true_imp_iff, false_imp_iff, imp_self, or_true, true_or, or_false, false_or, and_self, ite_true, ite_false, if_true, if_false, Nat.add_assoc]
        exact hq _ (Fr_wI (Fr_trans fr1 fr) rfl) (by simp [wI_at]) (by simp only [wI_at, ax_psh_none, ax_psh_some, true_and, and_true, and_false, false_and, not_true_eq_false, not_false_eq_true, true_imp_iff, false_imp_iff, imp_self, or_true, true_or, or_false, false_or, and_self, ite_true, ite_false, if_true, if_false, reduceIte, Nat.reduceEqDiff, Nat.reduceLT, Nat.reduceAdd, Nat.reduceMul, Nat.reduceSub, Nat.reduceDiv, Nat.reduceMod, Nat.reduceLeDiff]; rw [h21]; simp [wI_at])
      · simp only [pBra, hb, if_true, hk1, hc2, if_false] at hk
        exact absurd hk (by simp)
  · simp only [pBra, hb, if_false] at hk
    have q := ib_leaf hc hk
    have ea : a' = a + 1 := by
      by_cases hcd : ((c a = 50 ∧ v a ≤ 1000) ∨ (7 ≤ c a ∧ c a ≤ 14)) ∧ p < 50
      · rcases hcd with ⟨hcd | hcd, hp⟩
        · rw [pLeaf_n hcd.1 hcd.2 hp] at hk
          simp only [Sum.inr.injEq, Prod.mk.injEq] at hk
          omega
        · rw [pLeaf_w hcd hp] at hk
          simp only [Sum.inr.injEq, Prod.mk.injEq] at hk
          omega
      · rw [pLeaf_f hcd] at hk
        exact absurd hk (by simp)
    subst ea
    have w21 : ax_wI gi 12 0 19 (n32 (b + (a + 1))) 12 0 21 = gi 12 0 21 := by simp [wI_at]
    have hq' := hq (ax_wI gi 12 0 19 (n32 (b + (a + 1)))) (Fr_wI (Fr_refl _ _) rfl) (by simp [wI_at]) w21
    simp only [b_M_partOf_0, b_M_partOf_6, b_M_partOf_9, b_M_partOf_30, c_M_sign, c_passes_n _ hG hE (by omega) hgo (x := 100 + 91) (by decide) hb, hgo, c_codeAt _ hG hE (by omega : a ≤ 1000), n32_add, ax_psh_none, ax_psh_some, true_and, and_true, and_false, false_and, not_true_eq_false, not_false_eq_true, true_imp_iff, false_imp_iff, imp_self, or_true, true_or, or_false, false_or, and_self, ite_true, ite_false, if_true, if_false, Nat.add_assoc]
    rw [b_M_partOf_38]
    simp only [hgo, n32_add, Nat.add_assoc]
    refine ⟨fun _ => ?_, fun hl => ?_⟩
    · rw [b_M_partOf_60, z64]
      exact hq'
    · rw [b_M_partOf_53]
      refine ⟨fun hz => ?_, fun _ => ?_⟩
      · rw [w21] at hz
        rcases hd.2.2 with h1 | h1
        · exact absurd h1 hl
        · rw [hz, n32_01] at h1
          exact h1.elim
      · rw [b_M_partOf_60, z64]
        exact hq'
theorem ev_part_a {c v : Nat → Nat} {N h : Nat} {inn : PI Int} (hc : ∀ a, N ≤ a → c a = 0) (hib : IB N inn) (hi : EvA c v N inn m_M_sumOf h) (hh : 2 ≤ h) : EvA c v N (pBra c v inn) m_M_partOf (h + 1) := by
  intro D b e gi g Q a p s a' p' k m hD hG hE hgo haN hk hd hy hn
  obtain ⟨d, rfl⟩ : ∃ d2, D = d2 + 3 := ⟨D - 3, by omega⟩
  have hN : N ≤ 400 := hE.1
  have hb2 : b ≤ 2000 := hE.2.1
  rw [e_M_partOf]
  by_cases hb : c a = 191
  · have haN1 := c_lt hc hb (by decide)
    have fr1 : Fr evMod gi (ax_wI gi 12 0 19 (n32 (b + (a + 1)))) := Fr_wI (Fr_refl _ _) rfl
    match hk1 : inn (a + 1) p s with
    | .inl f =>
      simp only [pBra, hb, if_true, hk1] at hk
      exact absurd hk (by simp)
    | .inr (a1, p1, kk, mm) =>
      have q1 := hib _ _ _ _ _ _ _ haN1 hk1
      by_cases hc2 : c a1 = 193
      · simp only [pBra, hb, if_true, hk1, hc2, Sum.inr.injEq, Prod.mk.injEq] at hk
        obtain ⟨rfl, rfl, rfl, rfl⟩ := hk
        simp only [b_M_partOf_0, b_M_partOf_6, b_M_partOf_9, b_M_partOf_12, c_M_sign, c_passes_y _ hG hE (by omega) hgo (x := 100 + 91) hb, n32_10, ax_psh_none, ax_psh_some, true_and, and_true, and_false, false_and, not_true_eq_false, not_false_eq_true, true_imp_iff, false_imp_iff, imp_self, or_true, true_or, or_false, false_or, and_self, ite_true, ite_false, if_true, if_false]
        apply hi (d + 2) b e _ g _ (a + 1) p s a1 p1 kk mm (by omega) hG (EC_fr hE fr1) (by simp [wI_at]) haN1 hk1 (by simp [wI_at, hd])
        · intro x gi' hx bx fr hgo' h21
          simp only [b_M_partOf_17, hgo', n32_add, ax_psh_none, ax_psh_some, true_and, and_true, and_false, false_and, not_true_eq_false, not_false_eq_true, true_imp_iff, false_imp_iff, imp_self, or_true, true_or, or_false, false_or, and_self, ite_true, ite_false, if_true, if_false, Nat.add_assoc]
          exact hy x _ hx bx (Fr_wI (Fr_trans fr1 fr) rfl) (by simp [wI_at]) (by simp [wI_at, h21])
        · intro gi' hx fr hgo' h21
          simp only [b_M_partOf_17, hgo', n32_add, ax_psh_none, ax_psh_some, true_and, and_true, and_false, false_and, not_true_eq_false, not_false_eq_true, true_imp_iff, false_imp_iff, imp_self, or_true, true_or, or_false, false_or, and_self, ite_true, ite_false, if_true, if_false, Nat.add_assoc]
          exact hn _ hx (Fr_wI (Fr_trans fr1 fr) rfl) (by simp [wI_at]) (by simp [wI_at, h21])
      · simp only [pBra, hb, if_true, hk1, hc2, if_false] at hk
        exact absurd hk (by simp)
  · simp only [pBra, hb, if_false] at hk
    have q := ib_leaf hc hk
    have w21 : ∀ x, ax_wI gi 12 0 19 x 12 0 21 = n32 0 := fun x => by simp [wI_at, hd]
    have w64 : ∀ x j, ax_wI gi 12 0 19 x 64 0 j = gi 64 0 j := fun x j => by simp [wI_at]
    have w73 : ∀ x j, ax_wI gi 12 0 19 x 73 0 j = gi 73 0 j := fun x j => by simp [wI_at]
    have w19 : ∀ x, ax_wI gi 12 0 19 x 12 0 19 = x := fun x => by simp [wI_at]
    obtain ⟨t1, t2, t3⟩ := hE.2.2.2.2.1 a (by omega)
    simp only [b_M_partOf_0, b_M_partOf_6, b_M_partOf_9, b_M_partOf_30, c_M_sign, c_passes_n _ hG hE (by omega) hgo (x := 100 + 91) (by decide) hb, hgo, c_codeAt _ hG hE (by omega : a ≤ 1000), n32_add, ax_psh_none, ax_psh_some, true_and, and_true, and_false, false_and, not_true_eq_false, not_false_eq_true, true_imp_iff, false_imp_iff, imp_self, or_true, true_or, or_false, false_or, and_self, ite_true, ite_false, if_true, if_false, Nat.add_assoc]
    simp only [b_M_partOf_38, b_M_partOf_53, hgo, n32_add, w21, n32_10, ax_psh_none, ax_psh_some, true_and, and_true, and_false, false_and, not_true_eq_false, not_false_eq_true, true_imp_iff, false_imp_iff, imp_self, or_true, true_or, or_false, false_or, and_self, ite_true, ite_false, if_true, if_false, Nat.add_assoc]
    by_cases hcd : ((c a = 50 ∧ v a ≤ 1000) ∨ (7 ≤ c a ∧ c a ≤ 14)) ∧ p < 50
    · rcases hcd with ⟨hcd | hcd, hp⟩
      · rw [pLeaf_n hcd.1 hcd.2 hp] at hk
        simp only [Sum.inr.injEq, Prod.mk.injEq] at hk
        obtain ⟨rfl, rfl, rfl, rfl⟩ := hk
        have e1 : n32 (3205 + (b + (a + 1))) - n32 1 = n32 (3205 + (b + a)) := by
          rw [n32_sub (by omega)]
          congr 1
        simp (disch := omega) only [b_M_partOf_62, b_M_partOf_68, b_M_partOf_97, hcd.1, w19, e1, w64, t3 hcd.1 hcd.2, lo_n, G_0_0 hG, G_0_1 hG, G_0_2 hG, G_0_3 hG, G_0_7 hG, G_0_10 hG, G_0_12 hG, G_0_13 hG, G_0_14 hG, G_0_15 hG, G_0_16 hG, G_0_17 hG, G_1_0 hG, G_1_2 hG, G_1_5 hG, G_2_4 hG, G_2_5 hG, G_3_5 hG, G_3_6 hG, G_3_7 hG, G_3_8 hG, G_3_9 hG, G_5_0 hG, G_5_1 hG, G_6_0 hG, G_6_1 hG, G_6_2 hG, G_6_9 hG, G_6_10 hG, G_6_11 hG, G_6_12 hG, G_6_13 hG, G_7_0 hG, G_7_5 hG, G_8_8 hG, G_8_9 hG, G_9_8 hG, G_9_9 hG, G_10_7 hG, G_10_8 hG, G_10_9 hG, G_10_10 hG, G_10_11 hG, G_11_0 hG, G_12_2 hG, G_12_3 hG, G_12_4 hG, G_12_5 hG, G_12_7 hG, G_12_8 hG, G_12_9 hG, G_12_12 hG, G_12_13 hG, G_12_14 hG, G_12_22 hG, G_12_23 hG, G_12_29 hG, G_12_30 hG, G_12_31 hG, G_12_37 hG, G_12_38 hG, G_12_39 hG, G_12_40 hG, G_12_41 hG, G_12_43 hG, G_12_46 hG, G_12_47 hG, G_12_48 hG, G_25 hG, G_26 hG, G_47 hG, G_58 hG, n32_add, n32_mul, n32_lt, n32_le, n32_eq, n32_clamp, n32_inT, n32_div, n32_rem, n32_m1, n32_m1', n32_m1lt, n32_ltm1, n32_10, n32_01, Nat.not_lt_zero, Nat.lt_irrefl, Nat.mul_zero, Nat.zero_mul, Nat.zero_add, Nat.add_zero, Nat.reduceEqDiff, Nat.one_ne_zero, Nat.zero_ne_one, ax_psh_none, ax_psh_some, true_and, and_true, and_false, false_and, not_true_eq_false, not_false_eq_true, true_imp_iff, false_imp_iff, imp_self, or_true, true_or, or_false, false_or, and_self, ite_true, ite_false, if_true, if_false]
        exact hy (v a) _ rfl (Bd_n (by omega)) (Fr_wI (Fr_refl _ _) rfl) (by simp [wI_at]) (w21 _)
      · rw [pLeaf_w hcd hp] at hk
        simp only [Sum.inr.injEq, Prod.mk.injEq] at hk
        obtain ⟨rfl, rfl, rfl, rfl⟩ := hk
        have ne : ¬ c a = 50 := by omega
        have e1 : n32 (c a) - n32 7 = n32 (c a - 7) := n32_sub (by omega)
        obtain ⟨f1, f2⟩ := hE.2.2.2.2.2 (c a - 7) (by omega)
        simp (disch := omega) only [b_M_partOf_62, b_M_partOf_87, b_M_partOf_97, ne, e1, w73, f1, iv_64 f2, G_0_0 hG, G_0_1 hG, G_0_2 hG, G_0_3 hG, G_0_7 hG, G_0_10 hG, G_0_12 hG, G_0_13 hG, G_0_14 hG, G_0_15 hG, G_0_16 hG, G_0_17 hG, G_1_0 hG, G_1_2 hG, G_1_5 hG, G_2_4 hG, G_2_5 hG, G_3_5 hG, G_3_6 hG, G_3_7 hG, G_3_8 hG, G_3_9 hG, G_5_0 hG, G_5_1 hG, G_6_0 hG, G_6_1 hG, G_6_2 hG, G_6_9 hG, G_6_10 hG, G_6_11 hG, G_6_12 hG, G_6_13 hG, G_7_0 hG, G_7_5 hG, G_8_8 hG, G_8_9 hG, G_9_8 hG, G_9_9 hG, G_10_7 hG, G_10_8 hG, G_10_9 hG, G_10_10 hG, G_10_11 hG, G_11_0 hG, G_12_2 hG, G_12_3 hG, G_12_4 hG, G_12_5 hG, G_12_7 hG, G_12_8 hG, G_12_9 hG, G_12_12 hG, G_12_13 hG, G_12_14 hG, G_12_22 hG, G_12_23 hG, G_12_29 hG, G_12_30 hG, G_12_31 hG, G_12_37 hG, G_12_38 hG, G_12_39 hG, G_12_40 hG, G_12_41 hG, G_12_43 hG, G_12_46 hG, G_12_47 hG, G_12_48 hG, G_25 hG, G_26 hG, G_47 hG, G_58 hG, n32_add, n32_mul, n32_lt, n32_le, n32_eq, n32_clamp, n32_inT, n32_div, n32_rem, n32_m1, n32_m1', n32_m1lt, n32_ltm1, n32_10, n32_01, Nat.not_lt_zero, Nat.lt_irrefl, Nat.mul_zero, Nat.zero_mul, Nat.zero_add, Nat.add_zero, Nat.reduceEqDiff, Nat.one_ne_zero, Nat.zero_ne_one, ax_psh_none, ax_psh_some, true_and, and_true, and_false, false_and, not_true_eq_false, not_false_eq_true, true_imp_iff, false_imp_iff, imp_self, or_true, true_or, or_false, false_or, and_self, ite_true, ite_false, if_true, if_false]
        exact hy _ _ rfl f2 (Fr_wI (Fr_refl _ _) rfl) (by simp [wI_at]) (w21 _)
    · rw [pLeaf_f hcd] at hk
      exact absurd hk (by simp)
