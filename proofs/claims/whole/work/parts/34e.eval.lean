/-! the reference's going through: comparisons, clauses -/
theorem pCmp_inv {c : Nat → Nat} {it : PI Int} {a p s a' p' : Nat} {k : List (Nat × Nat)} {m : (Nat → Int) → Option Bool} (h : pCmp c it a p s = .inr (a', p', k, m)) : ∃ a1 p1 k1 m1 k2 m2 K, it a p s = .inr (a1, p1, k1, m1) ∧ it (a1 + 1) p1 (s + k1.length) = .inr (a', p', k2, m2) ∧ (c a1 = 160 ∧ K = 6 ∨ c a1 = 162 ∧ K = 7 ∨ c a1 = 161 ∧ K = 8) ∧ ∀ e, m e = op2 (fun x y => some (cmI K x y)) (m1 e) (m2 e) := by
  match hk : it a p s with
  | .inl f =>
    simp only [pCmp, hk] at h
    exact absurd h (by simp)
  | .inr (a1, p1, k1, m1) =>
    by_cases hc : c a1 = 160 ∨ c a1 = 162 ∨ c a1 = 161
    · match hk2 : it (a1 + 1) p1 (s + k1.length) with
      | .inl f =>
        simp only [pCmp, hk, hc, if_true, hk2] at h
        exact absurd h (by simp)
      | .inr (a2, p2, k2, m2) =>
        simp only [pCmp, hk, hc, if_true, hk2, Sum.inr.injEq, Prod.mk.injEq] at h
        obtain ⟨rfl, rfl, rfl, rfl⟩ := h
        refine ⟨a1, p1, k1, m1, k2, m2, (if c a1 = 160 then 6 else if c a1 = 162 then 7 else 8), rfl, hk2, ?_, fun e => rfl⟩
        rcases hc with q | q | q
        · exact Or.inl ⟨q, by simp [q]⟩
        · exact Or.inr (Or.inl ⟨q, by simp [q]⟩)
        · exact Or.inr (Or.inr ⟨q, by simp [q]⟩)
    · simp only [pCmp, hk, hc, if_false] at h
      exact absurd h (by simp)
theorem pPar_inv {c : Nat → Nat} {cmp inn : PI Bool} {a p s a' p' : Nat} {k : List (Nat × Nat)} {m : (Nat → Int) → Option Bool} (hb : c a = 140) (h : pPar c cmp inn a p s = .inr (a', p', k, m)) : ∃ a1, inn (a + 1) p s = .inr (a1, p', k, m) ∧ c a1 = 141 ∧ a' = a1 + 1 := by
  match hk : inn (a + 1) p s with
  | .inl f =>
    simp only [pPar, hb, if_true, hk] at h
    exact absurd h (by simp)
  | .inr (a1, p1, kk, mm) =>
    by_cases hc2 : c a1 = 141
    · simp only [pPar, hb, if_true, hk, hc2, Sum.inr.injEq, Prod.mk.injEq] at h
      obtain ⟨rfl, rfl, rfl, rfl⟩ := h
      exact ⟨a1, rfl, hc2, rfl⟩
    · simp only [pPar, hb, if_true, hk, hc2, if_false] at h
      exact absurd h (by simp)
theorem ev_pos_d {c v : Nat → Nat} {N h : Nat} {sum : PI Int} {inn : PI Bool} (hc : ∀ a, N ≤ a → c a = 0) (hibs : IB N sum) (hibi : IB N inn) (hs : EvD c v N sum m_M_sumOf h) (hi : EvDB c v N inn m_M_testOf h) (hh : 2 ≤ h) : EvDB c v N (pPar c (pCmp c sum) inn) m_M_positiveOf (h + 1) := by
  intro D b e gi g Q a p s a' p' k m lb hD hG hE hgo haN hk hd hq
  obtain ⟨d, rfl⟩ : ∃ d2, D = d2 + 3 := ⟨D - 3, by omega⟩
  have hN : N ≤ 400 := hE.1
  rw [e_M_positiveOf]
  by_cases hb : c a = 140
  · have haN1 := c_lt hc hb (by decide)
    have fr1 : Fr evMod gi (ax_wI gi 12 0 19 (n32 (b + (a + 1)))) := Fr_wI (Fr_refl _ _) rfl
    obtain ⟨a1, hk1, hc2, rfl⟩ := pPar_inv hb hk
    simp only [b_M_positiveOf_0, b_M_positiveOf_6, b_M_positiveOf_9, b_M_positiveOf_12, c_M_sign, c_passes_y _ hG hE (by omega : a ≤ 1000) hgo (x := 100 + 40) hb, n32_10, ax_psh_none, ax_psh_some, true_and, and_true, and_false, false_and, not_true_eq_false, not_false_eq_true, true_imp_iff, false_imp_iff, imp_self, or_true, true_or, or_false, false_or, and_self, ite_true, ite_false, if_true, if_false]
    apply hi (d + 2) b e _ g _ (a + 1) p s a1 p' k m lb (by omega) hG (EC_fr hE fr1) (by simp [wI_at]) haN1 hk1 (Dead_eq hd (by simp [wI_at]))
    intro w gi' fr hgo' h21
    simp only [b_M_positiveOf_17, hgo', n32_add, b32_d w, ax_psh_none, ax_psh_some, true_and, and_true, and_false, false_and, not_true_eq_false, not_false_eq_true, true_imp_iff, false_imp_iff, imp_self, or_true, true_or, or_false, false_or, and_self, ite_true, ite_false, if_true, if_false, Nat.add_assoc]
    exact hq w _ (Fr_wI (Fr_trans fr1 fr) rfl) (by simp [wI_at]) (by simp only [wI_at, ax_psh_none, ax_psh_some, true_and, and_true, and_false, false_and, not_true_eq_false, not_false_eq_true, true_imp_iff, false_imp_iff, imp_self, or_true, true_or, or_false, false_or, and_self, ite_true, ite_false, if_true, if_false, reduceIte, Nat.reduceEqDiff, Nat.reduceLT, Nat.reduceAdd, Nat.reduceMul, Nat.reduceSub, Nat.reduceDiv, Nat.reduceMod, Nat.reduceLeDiff]; rw [h21]; simp [wI_at])
  · simp only [pPar, hb, if_false] at hk
    obtain ⟨a1, p1, k1, m1, k2, m2, K, hk1, hk2, hK, -⟩ := pCmp_inv hk
    have q1 := hibs _ _ _ _ _ _ _ haN hk1
    have haN2 : a1 + 1 ≤ N := c_lt hc rfl (by omega)
    simp only [b_M_positiveOf_0, b_M_positiveOf_6, b_M_positiveOf_9, b_M_positiveOf_30, c_M_sign, c_passes_n _ hG hE (by omega : a ≤ 1000) hgo (x := 100 + 40) (by decide) hb, ax_psh_none, ax_psh_some, true_and, and_true, and_false, false_and, not_true_eq_false, not_false_eq_true, true_imp_iff, false_imp_iff, imp_self, or_true, true_or, or_false, false_or, and_self, ite_true, ite_false, if_true, if_false]
    apply hs (d + 2) b e gi g _ a p s a1 p1 k1 m1 _ (by omega) hG hE hgo haN hk1 hd
    intro gi1 fr hgo1 h21
    have fr2 : Fr evMod gi1 (ax_wI gi1 12 0 19 (n32 (b + (a1 + 1)))) := Fr_wI (Fr_refl _ _) rfl
    simp only [b_M_positiveOf_35, b_M_positiveOf_44, hgo1, c_codeAt _ hG (EC_fr hE fr) (by omega : a1 ≤ 1000), n32_add, ax_kl_none, ax_psh_none, ax_psh_some, true_and, and_true, and_false, false_and, not_true_eq_false, not_false_eq_true, true_imp_iff, false_imp_iff, imp_self, or_true, true_or, or_false, false_or, and_self, ite_true, ite_false, if_true, if_false, Nat.add_assoc]
    apply hs (d + 2) b e _ g _ (a1 + 1) p1 (s + k1.length) a' p' k2 m2 _ (by omega) hG (EC_fr hE (Fr_trans fr fr2)) (by simp [wI_at]) haN2 hk2 (Dead_eq hd (by simp [wI_at, h21]))
    intro gi2 fr3 hgo2 h21b
    have h21c : gi2 12 0 21 = gi 12 0 21 := h21b.trans (by simp [wI_at, h21])
    have fin : Q (some (.inl (n32 0))) (gi2, g) := hq false gi2 (Fr_trans fr (Fr_trans fr2 fr3)) hgo2 h21c
    simp only [ax_psh_none, ax_psh_some, true_and, and_true, and_false, false_and, not_true_eq_false, not_false_eq_true, true_imp_iff, false_imp_iff, imp_self, or_true, true_or, or_false, false_or, and_self, ite_true, ite_false, if_true, if_false]
    rw [b_M_positiveOf_61]
    refine ⟨fun _ => ?_, fun hl => ?_⟩
    · simp only [b_M_positiveOf_125, b_M_positiveOf_126, ax_psh_none, ax_psh_some, true_and, and_true, and_false, false_and, not_true_eq_false, not_false_eq_true, true_imp_iff, false_imp_iff, imp_self, or_true, true_or, or_false, false_or, and_self, ite_true, ite_false, if_true, if_false]
      exact fin
    · rw [b_M_positiveOf_67]
      refine ⟨fun hz => ?_, fun _ => ?_⟩
      · rw [h21c] at hz
        rcases hd.2.2 with z | z
        · exact absurd z hl
        · rw [hz, n32_01] at z
          exact z.elim
      · simp only [b_M_positiveOf_125, b_M_positiveOf_126, ax_psh_none, ax_psh_some, true_and, and_true, and_false, false_and, not_true_eq_false, not_false_eq_true, true_imp_iff, false_imp_iff, imp_self, or_true, true_or, or_false, false_or, and_self, ite_true, ite_false, if_true, if_false]
        exact fin
theorem ev_pos_a {c v : Nat → Nat} {N h : Nat} {sum : PI Int} {inn : PI Bool} (hc : ∀ a, N ≤ a → c a = 0) (hibs : IB N sum) (hibi : IB N inn) (hsd : EvD c v N sum m_M_sumOf h) (hs : EvA c v N sum m_M_sumOf h) (hi : EvAB c v N inn m_M_testOf h) (hh : 2 ≤ h) : EvAB c v N (pPar c (pCmp c sum) inn) m_M_positiveOf (h + 1) := by
  intro D b e gi g Q a p s a' p' k m hD hG hE hgo haN hk h21 hy hno
  obtain ⟨d, rfl⟩ : ∃ d2, D = d2 + 3 := ⟨D - 3, by omega⟩
  have hN : N ≤ 400 := hE.1
  rw [e_M_positiveOf]
  by_cases hb : c a = 140
  · have haN1 := c_lt hc hb (by decide)
    have fr1 : Fr evMod gi (ax_wI gi 12 0 19 (n32 (b + (a + 1)))) := Fr_wI (Fr_refl _ _) rfl
    obtain ⟨a1, hk1, hc2, rfl⟩ := pPar_inv hb hk
    simp only [b_M_positiveOf_0, b_M_positiveOf_6, b_M_positiveOf_9, b_M_positiveOf_12, c_M_sign, c_passes_y _ hG hE (by omega : a ≤ 1000) hgo (x := 100 + 40) hb, n32_10, ax_psh_none, ax_psh_some, true_and, and_true, and_false, false_and, not_true_eq_false, not_false_eq_true, true_imp_iff, false_imp_iff, imp_self, or_true, true_or, or_false, false_or, and_self, ite_true, ite_false, if_true, if_false]
    apply hi (d + 2) b e _ g _ (a + 1) p s a1 p' k m (by omega) hG (EC_fr hE fr1) (by simp [wI_at]) haN1 hk1 (by simp [wI_at, h21])
    · intro y gi' hm fr hgo' h21'
      simp only [b_M_positiveOf_17, hgo', n32_add, b32_d y, ax_psh_none, ax_psh_some, true_and, and_true, and_false, false_and, not_true_eq_false, not_false_eq_true, true_imp_iff, false_imp_iff, imp_self, or_true, true_or, or_false, false_or, and_self, ite_true, ite_false, if_true, if_false, Nat.add_assoc]
      exact hy y _ hm (Fr_wI (Fr_trans fr1 fr) rfl) (by simp [wI_at]) (by simp [wI_at, h21'])
    · intro w gi' hm fr hgo' h21'
      simp only [b_M_positiveOf_17, hgo', n32_add, b32_d w, ax_psh_none, ax_psh_some, true_and, and_true, and_false, false_and, not_true_eq_false, not_false_eq_true, true_imp_iff, false_imp_iff, imp_self, or_true, true_or, or_false, false_or, and_self, ite_true, ite_false, if_true, if_false, Nat.add_assoc]
      exact hno w _ hm (Fr_wI (Fr_trans fr1 fr) rfl) (by simp [wI_at]) (by simp [wI_at, h21'])
  · simp only [pPar, hb, if_false] at hk
    obtain ⟨a1, p1, k1, m1, k2, m2, K, hk1, hk2, hK, hme⟩ := pCmp_inv hk
    have q1 := hibs _ _ _ _ _ _ _ haN hk1
    have haN2 : a1 + 1 ≤ N := c_lt hc rfl (by omega)
    simp only [b_M_positiveOf_0, b_M_positiveOf_6, b_M_positiveOf_9, b_M_positiveOf_30, c_M_sign, c_passes_n _ hG hE (by omega : a ≤ 1000) hgo (x := 100 + 40) (by decide) hb, b32_1, ax_psh_none, ax_psh_some, true_and, and_true, and_false, false_and, not_true_eq_false, not_false_eq_true, true_imp_iff, false_imp_iff, imp_self, or_true, true_or, or_false, false_or, and_self, ite_true, ite_false, if_true, if_false]
    -- broken: false
    have brk : ∀ (gi2 : GI) (l2 l5 : Int64) (x4 : Int32) (o3 o6 : Option AV), m e = none → Fr evMod gi gi2 → gi2 12 0 19 = n32 (b + a') → gi2 12 0 21 = n32 1 → Runs (d + 2) (m_M_positiveOf, 61, [some (.inr (.inr (some (12, 0)))), some (.inl (n32 1)), some (.inr (.inl l2)), o3, some (.inl x4), none, o6], [.inr (.inl l5)]) (gi2, g) Q := by
      intro gi2 l2 l5 x4 o3 o6 hm fr hgo2 h21b
      simp only [b_M_positiveOf_61, b_M_positiveOf_67, b_M_positiveOf_125, b_M_positiveOf_126, h21b, n32_10, ax_psh_none, ax_psh_some, true_and, and_true, and_false, false_and, not_true_eq_false, not_false_eq_true, true_imp_iff, false_imp_iff, imp_self, or_true, true_or, or_false, false_or, and_self, ite_true, ite_false, if_true, if_false]
      exact hno false gi2 hm fr hgo2 h21b
    apply hs (d + 2) b e gi g _ a p s a1 p1 k1 m1 (by omega) hG hE hgo haN hk1 h21
    · intro x gi1 hx bx fr hgo1 h211
      have fr2 : Fr evMod gi1 (ax_wI gi1 12 0 19 (n32 (b + (a1 + 1)))) := Fr_wI (Fr_refl _ _) rfl
      simp only [b_M_positiveOf_35, b_M_positiveOf_44, hgo1, c_codeAt _ hG (EC_fr hE fr) (by omega : a1 ≤ 1000), n32_add, ax_kl_none, ax_psh_none, ax_psh_some, true_and, and_true, and_false, false_and, not_true_eq_false, not_false_eq_true, true_imp_iff, false_imp_iff, imp_self, or_true, true_or, or_false, false_or, and_self, ite_true, ite_false, if_true, if_false, Nat.add_assoc]
      apply hs (d + 2) b e _ g _ (a1 + 1) p1 (s + k1.length) a' p' k2 m2 (by omega) hG (EC_fr hE (Fr_trans fr fr2)) (by simp [wI_at]) haN2 hk2 (by simp [wI_at, h211])
      · intro w gi2 hw bw fr3 hgo2 h212
        have fr' := Fr_trans fr (Fr_trans fr2 fr3)
        have hm : m e = some (cmI K x w) := by rw [hme, hx, hw]; rfl
        have fin := hy _ gi2 hm fr' hgo2 h212
        have e67 : ¬ ((162 : Nat) = 100 + 60) := by decide
        have e17 : ¬ ((161 : Nat) = 100 + 60) := by decide
        have e18 : ¬ ((161 : Nat) = 100 + 62) := by decide
        rcases hK with ⟨hK, rfl⟩ | ⟨hK, rfl⟩ | ⟨hK, rfl⟩
        · by_cases hlt : x < w
          · simp (disch := omega) only [b_M_positiveOf_61, b_M_positiveOf_67, b_M_positiveOf_74, b_M_positiveOf_81, b_M_positiveOf_84, b_M_positiveOf_91, b_M_positiveOf_121, b_M_positiveOf_126, h212, hK, c_M_sign, cmp_lt (Bd_g bx) (Bd_g bw), hlt, n32_add, n32_mul, n32_lt, n32_le, n32_eq, n32_clamp, n32_inT, n32_div, n32_rem, n32_m1, n32_m1', n32_m1lt, n32_ltm1, n32_10, n32_01, Nat.not_lt_zero, Nat.lt_irrefl, Nat.mul_zero, Nat.zero_mul, Nat.zero_add, Nat.add_zero, Nat.reduceEqDiff, Nat.one_ne_zero, Nat.zero_ne_one, ax_psh_none, ax_psh_some, true_and, and_true, and_false, false_and, not_true_eq_false, not_false_eq_true, true_imp_iff, false_imp_iff, imp_self, or_true, true_or, or_false, false_or, and_self, ite_true, ite_false, if_true, if_false, reduceIte, Nat.reduceEqDiff, Nat.reduceLT, Nat.reduceAdd, Nat.reduceMul, Nat.reduceSub, Nat.reduceDiv, Nat.reduceMod, Nat.reduceLeDiff]
            simpa only [cmI, hlt, decide_true, b32_1] using fin
          · simp (disch := omega) only [b_M_positiveOf_61, b_M_positiveOf_67, b_M_positiveOf_74, b_M_positiveOf_81, b_M_positiveOf_84, b_M_positiveOf_125, b_M_positiveOf_126, h212, hK, c_M_sign, cmp_lt (Bd_g bx) (Bd_g bw), hlt, n32_add, n32_mul, n32_lt, n32_le, n32_eq, n32_clamp, n32_inT, n32_div, n32_rem, n32_m1, n32_m1', n32_m1lt, n32_ltm1, n32_10, n32_01, Nat.not_lt_zero, Nat.lt_irrefl, Nat.mul_zero, Nat.zero_mul, Nat.zero_add, Nat.add_zero, Nat.reduceEqDiff, Nat.one_ne_zero, Nat.zero_ne_one, ax_psh_none, ax_psh_some, true_and, and_true, and_false, false_and, not_true_eq_false, not_false_eq_true, true_imp_iff, false_imp_iff, imp_self, or_true, true_or, or_false, false_or, and_self, ite_true, ite_false, if_true, if_false, reduceIte, Nat.reduceEqDiff, Nat.reduceLT, Nat.reduceAdd, Nat.reduceMul, Nat.reduceSub, Nat.reduceDiv, Nat.reduceMod, Nat.reduceLeDiff]
            simpa only [cmI, hlt, decide_false, b32_0] using fin
        · by_cases hlt : w < x
          · simp (disch := omega) only [b_M_positiveOf_61, b_M_positiveOf_67, b_M_positiveOf_74, b_M_positiveOf_81, b_M_positiveOf_94, b_M_positiveOf_101, b_M_positiveOf_104, b_M_positiveOf_111, b_M_positiveOf_121, b_M_positiveOf_126, h212, hK, c_M_sign, cmp_gt (Bd_g bx) (Bd_g bw), hlt, n32_add, n32_mul, n32_lt, n32_le, n32_eq, n32_clamp, n32_inT, n32_div, n32_rem, n32_m1, n32_m1', n32_m1lt, n32_ltm1, n32_10, n32_01, Nat.not_lt_zero, Nat.lt_irrefl, Nat.mul_zero, Nat.zero_mul, Nat.zero_add, Nat.add_zero, Nat.reduceEqDiff, Nat.one_ne_zero, Nat.zero_ne_one, ax_psh_none, ax_psh_some, true_and, and_true, and_false, false_and, not_true_eq_false, not_false_eq_true, true_imp_iff, false_imp_iff, imp_self, or_true, true_or, or_false, false_or, and_self, ite_true, ite_false, if_true, if_false, reduceIte, Nat.reduceEqDiff, Nat.reduceLT, Nat.reduceAdd, Nat.reduceMul, Nat.reduceSub, Nat.reduceDiv, Nat.reduceMod, Nat.reduceLeDiff]
            simpa only [cmI, hlt, decide_true, b32_1] using fin
          · simp (disch := omega) only [b_M_positiveOf_61, b_M_positiveOf_67, b_M_positiveOf_74, b_M_positiveOf_81, b_M_positiveOf_94, b_M_positiveOf_101, b_M_positiveOf_104, b_M_positiveOf_125, b_M_positiveOf_126, h212, hK, c_M_sign, cmp_gt (Bd_g bx) (Bd_g bw), hlt, n32_add, n32_mul, n32_lt, n32_le, n32_eq, n32_clamp, n32_inT, n32_div, n32_rem, n32_m1, n32_m1', n32_m1lt, n32_ltm1, n32_10, n32_01, Nat.not_lt_zero, Nat.lt_irrefl, Nat.mul_zero, Nat.zero_mul, Nat.zero_add, Nat.add_zero, Nat.reduceEqDiff, Nat.one_ne_zero, Nat.zero_ne_one, ax_psh_none, ax_psh_some, true_and, and_true, and_false, false_and, not_true_eq_false, not_false_eq_true, true_imp_iff, false_imp_iff, imp_self, or_true, true_or, or_false, false_or, and_self, ite_true, ite_false, if_true, if_false, reduceIte, Nat.reduceEqDiff, Nat.reduceLT, Nat.reduceAdd, Nat.reduceMul, Nat.reduceSub, Nat.reduceDiv, Nat.reduceMod, Nat.reduceLeDiff]
            simpa only [cmI, hlt, decide_false, b32_0] using fin
        · by_cases hlt : x = w
          · subst hlt
            simp (disch := omega) only [b_M_positiveOf_61, b_M_positiveOf_67, b_M_positiveOf_74, b_M_positiveOf_81, b_M_positiveOf_94, b_M_positiveOf_101, b_M_positiveOf_114, b_M_positiveOf_121, b_M_positiveOf_126, h212, hK, c_M_sign, cmp_eq (Bd_g bx) (Bd_g bx), n32_add, n32_mul, n32_lt, n32_le, n32_eq, n32_clamp, n32_inT, n32_div, n32_rem, n32_m1, n32_m1', n32_m1lt, n32_ltm1, n32_10, n32_01, Nat.not_lt_zero, Nat.lt_irrefl, Nat.mul_zero, Nat.zero_mul, Nat.zero_add, Nat.add_zero, Nat.reduceEqDiff, Nat.one_ne_zero, Nat.zero_ne_one, ax_psh_none, ax_psh_some, true_and, and_true, and_false, false_and, not_true_eq_false, not_false_eq_true, true_imp_iff, false_imp_iff, imp_self, or_true, true_or, or_false, false_or, and_self, ite_true, ite_false, if_true, if_false, reduceIte, Nat.reduceEqDiff, Nat.reduceLT, Nat.reduceAdd, Nat.reduceMul, Nat.reduceSub, Nat.reduceDiv, Nat.reduceMod, Nat.reduceLeDiff]
            simpa only [cmI, decide_true, b32_1] using fin
          · simp (disch := omega) only [b_M_positiveOf_61, b_M_positiveOf_67, b_M_positiveOf_74, b_M_positiveOf_81, b_M_positiveOf_94, b_M_positiveOf_101, b_M_positiveOf_114, b_M_positiveOf_125, b_M_positiveOf_126, h212, hK, c_M_sign, cmp_eq (Bd_g bx) (Bd_g bw), hlt, n32_add, n32_mul, n32_lt, n32_le, n32_eq, n32_clamp, n32_inT, n32_div, n32_rem, n32_m1, n32_m1', n32_m1lt, n32_ltm1, n32_10, n32_01, Nat.not_lt_zero, Nat.lt_irrefl, Nat.mul_zero, Nat.zero_mul, Nat.zero_add, Nat.add_zero, Nat.reduceEqDiff, Nat.one_ne_zero, Nat.zero_ne_one, ax_psh_none, ax_psh_some, true_and, and_true, and_false, false_and, not_true_eq_false, not_false_eq_true, true_imp_iff, false_imp_iff, imp_self, or_true, true_or, or_false, false_or, and_self, ite_true, ite_false, if_true, if_false, reduceIte, Nat.reduceEqDiff, Nat.reduceLT, Nat.reduceAdd, Nat.reduceMul, Nat.reduceSub, Nat.reduceDiv, Nat.reduceMod, Nat.reduceLeDiff]
            simpa only [cmI, hlt, decide_false, b32_0] using fin
      · intro gi2 hw fr3 hgo2 h212
        simp only [ax_psh_none, ax_psh_some, true_and, and_true, and_false, false_and, not_true_eq_false, not_false_eq_true, true_imp_iff, false_imp_iff, imp_self, or_true, true_or, or_false, false_or, and_self, ite_true, ite_false, if_true, if_false]
        exact brk gi2 _ _ _ _ _ (by rw [hme, hx, hw]; rfl) (Fr_trans fr (Fr_trans fr2 fr3)) hgo2 h212
    · intro gi1 hx fr hgo1 h211
      have fr2 : Fr evMod gi1 (ax_wI gi1 12 0 19 (n32 (b + (a1 + 1)))) := Fr_wI (Fr_refl _ _) rfl
      simp only [b_M_positiveOf_35, b_M_positiveOf_44, hgo1, c_codeAt _ hG (EC_fr hE fr) (by omega : a1 ≤ 1000), n32_add, ax_kl_none, ax_psh_none, ax_psh_some, true_and, and_true, and_false, false_and, not_true_eq_false, not_false_eq_true, true_imp_iff, false_imp_iff, imp_self, or_true, true_or, or_false, false_or, and_self, ite_true, ite_false, if_true, if_false, Nat.add_assoc]
      have w1 : ax_wI gi1 12 0 19 (n32 (b + (a1 + 1))) 12 0 21 = n32 1 := by simp [wI_at, h211]
      apply hsd (d + 2) b e _ g _ (a1 + 1) p1 (s + k1.length) a' p' k2 m2 (n32 1) (by omega) hG (EC_fr hE (Fr_trans fr fr2)) (by simp [wI_at]) haN2 hk2 ⟨Or.inr w1, Or.inr rfl, Or.inr w1⟩
      intro gi2 fr3 hgo2 h212
      simp only [ax_psh_none, ax_psh_some, true_and, and_true, and_false, false_and, not_true_eq_false, not_false_eq_true, true_imp_iff, false_imp_iff, imp_self, or_true, true_or, or_false, false_or, and_self, ite_true, ite_false, if_true, if_false]
      exact brk gi2 _ _ _ _ _ (by rw [hme, hx]; rfl) (Fr_trans fr (Fr_trans fr2 fr3)) hgo2 (h212.trans w1)
/-- nots counted -/
theorem ev_nots {c v : Nat → Nat} {N d b : Nat} {e : Nat → Int} {g : AG} {Q : Option AV → AH → Prop} {x1 : Int32} (hG : GOK g) (hc : ∀ a, N ≤ a → c a = 0) : ∀ (n : Nat) (gi : GI) (a : Nat) (t : Bool), EC gi c v N b e → gi 12 0 19 = n32 (b + a) → a ≤ N → N ≤ a + n →
    (Runs (d + 2) (m_M_plainOf, 24, [some (.inr (.inr (some (12, 0)))), some (.inl x1), some (.inl (b32 (pNots c n a t).2))], []) (ax_wI gi 12 0 19 (n32 (b + (pNots c n a t).1)), g) Q) →
    Runs (d + 2) (m_M_plainOf, 2, [some (.inr (.inr (some (12, 0)))), some (.inl x1), some (.inl (b32 t))], []) (gi, g) Q := by
  intro n
  induction n with
  | zero =>
    intro gi a t hE hgo haN hn hq
    have hN : N ≤ 400 := hE.1
    have h0 := hc a (by omega)
    rw [b_M_plainOf_2]
    simp only [b_M_plainOf_8, c_passes_n _ hG hE (by omega : a ≤ 1000) hgo (x := 6) (by decide) (by rw [h0]; decide), ax_psh_none, ax_psh_some, true_and, and_true, and_false, false_and, not_true_eq_false, not_false_eq_true, true_imp_iff, false_imp_iff, imp_self, or_true, true_or, or_false, false_or, and_self, ite_true, ite_false, if_true, if_false]
    rw [show pNots c 0 a t = (a, t) from rfl, wI_same hgo] at hq
    exact hq
  | succ n ih =>
    intro gi a t hE hgo haN hn hq
    have hN : N ≤ 400 := hE.1
    by_cases h1 : c a = 6
    · have haN1 := c_lt hc h1 (by decide)
      have e' : pNots c (n + 1) a t = pNots c n (a + 1) (!t) := by
        show (if c a = 6 then _ else _) = _
        rw [if_pos h1]
      have fr1 : Fr evMod gi (ax_wI gi 12 0 19 (n32 (b + (a + 1)))) := Fr_wI (Fr_refl _ _) rfl
      have step := ih (ax_wI gi 12 0 19 (n32 (b + (a + 1)))) (a + 1) (!t) (EC_fr hE fr1) (by simp [wI_at]) haN1 (by omega) (by rw [ww19, ← e']; exact hq)
      rw [b_M_plainOf_2]
      cases t
      · simp only [b_M_plainOf_8, b_M_plainOf_11, b_M_plainOf_15, b_M_plainOf_20, c_passes_y _ hG hE (by omega : a ≤ 1000) hgo (x := 6) h1, b32_0, n32_10, ax_psh_none, ax_psh_some, true_and, and_true, and_false, false_and, not_true_eq_false, not_false_eq_true, true_imp_iff, false_imp_iff, imp_self, or_true, true_or, or_false, false_or, and_self, ite_true, ite_false, if_true, if_false]
        exact step
      · simp only [b_M_plainOf_8, b_M_plainOf_11, b_M_plainOf_19, b_M_plainOf_20, c_passes_y _ hG hE (by omega : a ≤ 1000) hgo (x := 6) h1, b32_1, n32_10, ax_psh_none, ax_psh_some, true_and, and_true, and_false, false_and, not_true_eq_false, not_false_eq_true, true_imp_iff, false_imp_iff, imp_self, or_true, true_or, or_false, false_or, and_self, ite_true, ite_false, if_true, if_false]
        exact step
    · have e' : pNots c (n + 1) a t = (a, t) := by
        show (if c a = 6 then _ else _) = _
        rw [if_neg h1]
      rw [b_M_plainOf_2]
      simp only [b_M_plainOf_8, c_passes_n _ hG hE (by omega : a ≤ 1000) hgo (x := 6) (by decide) h1, ax_psh_none, ax_psh_some, true_and, and_true, and_false, false_and, not_true_eq_false, not_false_eq_true, true_imp_iff, false_imp_iff, imp_self, or_true, true_or, or_false, false_or, and_self, ite_true, ite_false, if_true, if_false]
      rw [e', wI_same hgo] at hq
      exact hq
theorem plainOf_end (d : Nat) (gi : GI) (g : AG) (Q : Option AV → AH → Prop) (w t : Bool) (o1 : Option AV) : Runs d (m_M_plainOf, 29, [some (.inr (.inr (some (12, 0)))), o1, some (.inl (b32 t))], [.inl (b32 w)]) (gi, g) Q = Q (some (.inl (b32 (w != t)))) (gi, g) := by
  cases w <;> cases t <;> simp only [b_M_plainOf_29, b_M_plainOf_33, b_M_plainOf_37, b_M_plainOf_38, b32_0, b32_1, n32_10, n32_01, ax_psh_none, ax_psh_some, true_and, and_true, and_false, false_and, not_true_eq_false, not_false_eq_true, true_imp_iff, false_imp_iff, imp_self, or_true, true_or, or_false, false_or, and_self, ite_true, ite_false, if_true, if_false] <;> rfl
theorem ev_plain_d {c v : Nat → Nat} {N h : Nat} {cmp inn : PI Bool} (hc : ∀ a, N ≤ a → c a = 0) (hp : EvDB c v N (pPar c cmp inn) m_M_positiveOf h) (hh : 2 ≤ h) : EvDB c v N (pNot c cmp inn) m_M_plainOf (h + 1) := by
  intro D b e gi g Q a p s a' p' k m lb hD hG hE hgo haN hk hd hq
  obtain ⟨d, rfl⟩ : ∃ d2, D = d2 + 3 := ⟨D - 3, by omega⟩
  have hN : N ≤ 400 := hE.1
  obtain ⟨k1, m1, hk1, -⟩ := pNot_inv hk
  rw [e_M_plainOf, b_M_plainOf_0]
  refine ev_nots (b := b) (e := e) hG hc 400 gi a false hE hgo haN (by omega) ?_
  have fr1 : Fr evMod gi (ax_wI gi 12 0 19 (n32 (b + (pNots c 400 a false).1))) := Fr_wI (Fr_refl _ _) rfl
  rw [b_M_plainOf_24]
  apply hp (d + 2) b e _ g _ _ p s a' p' k1 m1 lb (by omega) hG (EC_fr hE fr1) (by simp [wI_at]) (pNots_N hc haN) hk1 (Dead_eq hd (by simp [wI_at]))
  intro w gi' fr hgo' h21
  simp only [ax_psh_none, ax_psh_some, true_and, and_true, and_false, false_and, not_true_eq_false, not_false_eq_true, true_imp_iff, false_imp_iff, imp_self, or_true, true_or, or_false, false_or, and_self, ite_true, ite_false, if_true, if_false]
  rw [plainOf_end]
  exact hq _ gi' (Fr_trans fr1 fr) hgo' (h21.trans (by simp [wI_at]))
theorem ev_plain_a {c v : Nat → Nat} {N h : Nat} {cmp inn : PI Bool} (hc : ∀ a, N ≤ a → c a = 0) (hp : EvAB c v N (pPar c cmp inn) m_M_positiveOf h) (hh : 2 ≤ h) : EvAB c v N (pNot c cmp inn) m_M_plainOf (h + 1) := by
  intro D b e gi g Q a p s a' p' k m hD hG hE hgo haN hk h21 hy hno
  obtain ⟨d, rfl⟩ : ∃ d2, D = d2 + 3 := ⟨D - 3, by omega⟩
  have hN : N ≤ 400 := hE.1
  obtain ⟨k1, m1, hk1, hme⟩ := pNot_inv hk
  rw [e_M_plainOf, b_M_plainOf_0]
  refine ev_nots (b := b) (e := e) hG hc 400 gi a false hE hgo haN (by omega) ?_
  have fr1 : Fr evMod gi (ax_wI gi 12 0 19 (n32 (b + (pNots c 400 a false).1))) := Fr_wI (Fr_refl _ _) rfl
  rw [b_M_plainOf_24]
  apply hp (d + 2) b e _ g _ _ p s a' p' k1 m1 (by omega) hG (EC_fr hE fr1) (by simp [wI_at]) (pNots_N hc haN) hk1 (by simp [wI_at, h21])
  · intro y gi' hm fr hgo' h21'
    simp only [ax_psh_none, ax_psh_some, true_and, and_true, and_false, false_and, not_true_eq_false, not_false_eq_true, true_imp_iff, false_imp_iff, imp_self, or_true, true_or, or_false, false_or, and_self, ite_true, ite_false, if_true, if_false]
    rw [plainOf_end]
    exact hy _ gi' (by rw [hme, hm]; rfl) (Fr_trans fr1 fr) hgo' h21'
  · intro w gi' hm fr hgo' h21'
    simp only [ax_psh_none, ax_psh_some, true_and, and_true, and_false, false_and, not_true_eq_false, not_false_eq_true, true_imp_iff, false_imp_iff, imp_self, or_true, true_or, or_false, false_or, and_self, ite_true, ite_false, if_true, if_false]
    rw [plainOf_end]
    exact hno _ gi' (by rw [hme, hm]; rfl) (Fr_trans fr1 fr) hgo' h21'
/-! all together -/
theorem EvD_mono {c v : Nat → Nat} {N mt h h' : Nat} {it : PI Int} (hh : h ≤ h') (H : EvD c v N it mt h) : EvD c v N it mt h' := fun D b e gi g Q a p s a' p' k m lb hD => H D b e gi g Q a p s a' p' k m lb (Nat.le_trans hh hD)
theorem EvA_mono {c v : Nat → Nat} {N mt h h' : Nat} {it : PI Int} (hh : h ≤ h') (H : EvA c v N it mt h) : EvA c v N it mt h' := fun D b e gi g Q a p s a' p' k m hD => H D b e gi g Q a p s a' p' k m (Nat.le_trans hh hD)
theorem EvDB_mono {c v : Nat → Nat} {N mt h h' : Nat} {it : PI Bool} (hh : h ≤ h') (H : EvDB c v N it mt h) : EvDB c v N it mt h' := fun D b e gi g Q a p s a' p' k m lb hD => H D b e gi g Q a p s a' p' k m lb (Nat.le_trans hh hD)
theorem EvAB_mono {c v : Nat → Nat} {N mt h h' : Nat} {it : PI Bool} (hh : h ≤ h') (H : EvAB c v N it mt h) : EvAB c v N it mt h' := fun D b e gi g Q a p s a' p' k m hD => H D b e gi g Q a p s a' p' k m (Nat.le_trans hh hD)
theorem ev_part {c : Nat → Nat} {N : Nat} (v : Nat → Nat) (hc : ∀ a, N ≤ a → c a = 0) : ∀ r, EvD c v N (pPart c v r) m_M_partOf (3 * r + 3) ∧ EvA c v N (pPart c v r) m_M_partOf (3 * r + 3)
  | 0 => ⟨ev_part_d (h := 2) hc (fun a p s a' p' k m _ h => absurd h (by simp)) (fun D b e gi g Q a p s a' p' k m lb _ _ _ _ _ h => absurd h (by simp)) (by omega), ev_part_a (h := 2) hc (fun a p s a' p' k m _ h => absurd h (by simp)) (fun D b e gi g Q a p s a' p' k m _ _ _ _ _ h => absurd h (by simp)) (by omega)⟩
  | r + 1 => by
    obtain ⟨h1, h2⟩ := ev_part v hc r
    have t1 := ev_term_d hc (ib_part v hc r) h1 (by omega)
    have t2 := ev_term_a hc (ib_part v hc r) h1 h2 (by omega)
    have i2 := ib_seq (k1 := 4) (k2 := 5) hc (o1 := 142) (o2 := 147) (by decide) (by decide) (ib_part v hc r)
    have s1 := ev_sum_d hc i2 t1 (by omega)
    have s2 := ev_sum_a hc i2 t1 t2 (by omega)
    exact ⟨ev_part_d hc (ib_sum v hc r) s1 (by omega), ev_part_a hc (ib_sum v hc r) s2 (by omega)⟩
theorem ev_sum {c : Nat → Nat} {N : Nat} (v : Nat → Nat) (hc : ∀ a, N ≤ a → c a = 0) (r : Nat) : EvD c v N (pSum c v r) m_M_sumOf (3 * r + 5) ∧ EvA c v N (pSum c v r) m_M_sumOf (3 * r + 5) := by
  obtain ⟨h1, h2⟩ := ev_part v hc r
  have t1 := ev_term_d hc (ib_part v hc r) h1 (by omega)
  have t2 := ev_term_a hc (ib_part v hc r) h1 h2 (by omega)
  have i2 := ib_seq (k1 := 4) (k2 := 5) hc (o1 := 142) (o2 := 147) (by decide) (by decide) (ib_part v hc r)
  exact ⟨ev_sum_d hc i2 t1 (by omega), ev_sum_a hc i2 t1 t2 (by omega)⟩
theorem ev_plain {c : Nat → Nat} {N : Nat} (v : Nat → Nat) (hc : ∀ a, N ≤ a → c a = 0) : ∀ r, EvDB c v N (pPlain c v r) m_M_plainOf (4 * r + 7) ∧ EvAB c v N (pPlain c v r) m_M_plainOf (4 * r + 7)
  | 0 => by
    obtain ⟨h1, h2⟩ := ev_sum v hc 0
    have ib : IB N (fun a (_ _ : Nat) => (.inl (a - 1) : PR Bool)) := fun a p s a' p' k m _ h => absurd h (by simp)
    exact ⟨ev_plain_d hc (ev_pos_d hc (ib_sum v hc 0) ib h1 (fun D b e gi g Q a p s a' p' k m lb _ _ _ _ _ h => absurd h (by simp)) (by omega)) (by omega), ev_plain_a hc (ev_pos_a hc (ib_sum v hc 0) ib h1 h2 (fun D b e gi g Q a p s a' p' k m _ _ _ _ _ h => absurd h (by simp)) (by omega)) (by omega)⟩
  | r + 1 => by
    obtain ⟨h1, h2⟩ := ev_sum v hc (r + 1)
    obtain ⟨p1, p2⟩ := ev_plain v hc r
    have b1 := ev_both_d hc (ib_plain v hc r) p1 (by omega)
    have b2 := ev_both_a hc (ib_plain v hc r) p1 p2 (by omega)
    have i2 := ib_tseq (kk := 11) (sh := false) hc (w := 5) (by decide) (ib_plain v hc r)
    have t1 := ev_test_d hc i2 b1 (by omega)
    have t2 := ev_test_a hc i2 b1 b2 (by omega)
    exact ⟨ev_plain_d hc (ev_pos_d (h := 4 * (r + 1) + 5) hc (ib_sum v hc (r + 1)) (ib_test v hc r) (EvD_mono (by omega) h1) (EvDB_mono (by omega) t1) (by omega)) (by omega), ev_plain_a hc (ev_pos_a (h := 4 * (r + 1) + 5) hc (ib_sum v hc (r + 1)) (ib_test v hc r) (EvD_mono (by omega) h1) (EvA_mono (by omega) h2) (EvAB_mono (by omega) t2) (by omega)) (by omega)⟩
theorem ev_test {c : Nat → Nat} {N : Nat} (v : Nat → Nat) (hc : ∀ a, N ≤ a → c a = 0) (r : Nat) : EvAB c v N (pTest c v r) m_M_testOf (4 * r + 9) := by
  obtain ⟨p1, p2⟩ := ev_plain v hc r
  have b1 := ev_both_d hc (ib_plain v hc r) p1 (by omega)
  have b2 := ev_both_a hc (ib_plain v hc r) p1 p2 (by omega)
  have i2 := ib_tseq (kk := 11) (sh := false) hc (w := 5) (by decide) (ib_plain v hc r)
  exact ev_test_a hc i2 b1 b2 (by omega)
