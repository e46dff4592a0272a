/-! the class's reader: clauses -/
def clMod (s j : Nat) : Bool := rdMod s j || (s == 6 && j == 7) || s == 34 || s == 35 || s == 36
theorem Fr_cl {gi gi' : GI} (h : Fr rdMod gi gi') : Fr clMod gi gi' := Fr_mono h (fun s j q => by
  unfold clMod at q
  simp only [Bool.or_eq_false_iff] at q
  exact q.1.1.1.1)
theorem TokC_cl {gi gi' : GI} {c v : Nat → Nat} {N : Nat} (h : TokC gi c v N) (hf : Fr clMod gi gi') : TokC gi' c v N := by
  unfold TokC at *
  have h1 : ∀ a, gi' 31 0 a = gi 31 0 a := fun a => hf 31 0 a rfl
  have h2 : ∀ a, gi' 32 0 a = gi 32 0 a := fun a => hf 32 0 a rfl
  simp only [h1, h2]
  exact h
/-- what is kept below -/
def ClLow (gi gi' : GI) (n s : Nat) : Prop := (∀ j, j < n → gi' 34 0 j = gi 34 0 j ∧ gi' 35 0 j = gi 35 0 j ∧ gi' 36 0 j = gi 36 0 j) ∧ ∀ j, j < s → gi' 37 0 j = gi 37 0 j ∧ gi' 38 0 j = gi 38 0 j
def CsAt (f1 f2 f3 f4 f5 : Nat → Int32) : Nat → Nat → List PC → Prop
  | _, _, [] => True
  | n, s, C :: l => f1 n = n32 s ∧ f2 n = b32 C.1 ∧ f3 n = b32 C.2.1 ∧ CodeAt f4 f5 s C.2.2.1 ∧ f1 (n + 1) = n32 (s + C.2.2.1.length) ∧ CsAt f1 f2 f3 f4 f5 (n + 1) (s + C.2.2.1.length) l
theorem rd_readIf {c v : Nat → Nat} {N h : Nat} (htest : RdC c v N (pTest c v 8) m_Reader_readTest h 8) (hh : 1 ≤ h) (D : Nat) (gi : GI) (g : AG) (Q : Option AV → AH → Prop) (a p s n : Nat) (sp : Bool) (k : List (Nat × Nat)) (m : (Nat → Int) → Option Int) (hD : h ≤ D) (hG : GOK g) (ht : TokC gi c v N) (ha : gi 6 0 4 = n32 a) (hp : gi 6 0 5 = n32 p) (hs : gi 6 0 8 = n32 (s + k.length)) (hn : gi 6 0 7 = n32 n) (hn12 : n < 12) (haN : a ≤ N) (hsa : s + k.length ≤ a) (hp50 : p ≤ 50) (h34 : gi 34 0 n = n32 s) (h35 : gi 35 0 n = b32 sp) (hc : CodeAt (gi 37 0) (gi 38 0) s k)
    (hf : ∀ f gi', pIf c v sp s a p k m = .inl f → Fr clMod gi gi' → gi' 6 0 6 = gi 33 0 f → f ≤ N → Q (some (.inl (n32 0))) (gi', g))
    (hok : ∀ a' p' C gi', pIf c v sp s a p k m = .inr (a', p', C) → Fr clMod gi gi' → gi' 6 0 4 = n32 a' → gi' 6 0 5 = n32 p' → gi' 6 0 7 = n32 (n + 1) → gi' 6 0 8 = n32 (s + C.2.2.1.length) → a + C.2.2.1.length ≤ a' + k.length → a ≤ a' → a' ≤ N → p' ≤ 50 → gi' 6 0 6 = gi 6 0 6 → CsAt (gi' 34 0) (gi' 35 0) (gi' 36 0) (gi' 37 0) (gi' 38 0) n s [C] → ClLow gi gi' n s → Q (some (.inl (n32 1))) (gi', g)) :
    Runs D (m_Reader_readClause, 80, [some (.inr (.inr (some (6, 0))))], []) (gi, g) Q := by
  obtain ⟨d, rfl⟩ : ∃ d2, D = d2 + 1 := ⟨D - 1, by omega⟩
  have hN : N ≤ 400 := ht.1
  -- the end
  have fin : ∀ (gi' : GI) (a' p' : Nat) (te : Bool) (k' : List (Nat × Nat)) (m' : (Nat → Int) → Option Bool), pIf c v sp s a p k m = .inr (a', p', sp, te, k ++ k', m, m') → Fr clMod gi gi' → gi' 6 0 4 = n32 a' → gi' 6 0 5 = n32 p' → gi' 6 0 7 = n32 n → gi' 6 0 8 = n32 (s + (k ++ k').length) → a + k'.length ≤ a' → a ≤ a' → a' ≤ N → p' ≤ 50 → gi' 6 0 6 = gi 6 0 6 → gi' 34 0 n = n32 s → gi' 35 0 n = b32 sp → gi' 36 0 n = b32 te → CodeAt (gi' 37 0) (gi' 38 0) s (k ++ k') → ClLow gi gi' n s →
      Runs (d + 1) (m_Reader_readClause, 118, [some (.inr (.inr (some (6, 0))))], []) (gi', g) Q := by
    intro gi' a' p' te k' m' e hfr ha' hp' hn' hs' hl1 hl2 haN' hp50' h66 q34 q35 q36 hcc hlow
    have fr2 : Fr clMod gi' (ax_wI (ax_wI gi' 6 0 7 (n32 (n + 1))) 34 0 (n + 1) (n32 (s + (k ++ k').length))) := Fr_wI (Fr_wI (Fr_refl _ _) rfl) rfl
    simp (disch := omega) only [b_Reader_readClause_118, G_0_0 hG, G_0_1 hG, G_0_2 hG, G_0_3 hG, G_0_7 hG, G_0_10 hG, G_0_12 hG, G_0_13 hG, G_0_14 hG, G_0_15 hG, G_0_16 hG, G_0_17 hG, G_1_0 hG, G_1_2 hG, G_1_5 hG, G_2_4 hG, G_2_5 hG, G_3_5 hG, G_3_6 hG, G_3_7 hG, G_3_8 hG, G_3_9 hG, G_5_0 hG, G_5_1 hG, G_6_0 hG, G_6_1 hG, G_6_2 hG, G_6_9 hG, G_6_10 hG, G_6_11 hG, G_6_12 hG, G_6_13 hG, G_7_0 hG, G_7_5 hG, G_8_8 hG, G_8_9 hG, G_9_8 hG, G_9_9 hG, G_10_7 hG, G_10_8 hG, G_10_9 hG, G_10_10 hG, G_10_11 hG, G_11_0 hG, G_12_2 hG, G_12_3 hG, G_12_4 hG, G_12_5 hG, G_12_7 hG, G_12_8 hG, G_12_9 hG, G_12_12 hG, G_12_13 hG, G_12_14 hG, G_12_22 hG, G_12_23 hG, G_12_29 hG, G_12_30 hG, G_12_31 hG, G_12_37 hG, G_12_38 hG, G_12_39 hG, G_12_40 hG, G_12_41 hG, G_12_43 hG, G_12_46 hG, G_12_47 hG, G_12_48 hG, G_25 hG, G_26 hG, G_47 hG, G_58 hG, hn', hs', wI_at, n32_add, n32_mul, n32_lt, n32_le, n32_eq, n32_clamp, n32_inT, n32_div, n32_rem, n32_m1, n32_m1', n32_m1lt, n32_ltm1, n32_10, n32_01, Nat.not_lt_zero, Nat.lt_irrefl, Nat.mul_zero, Nat.zero_mul, Nat.zero_add, Nat.add_zero, Nat.reduceEqDiff, Nat.one_ne_zero, Nat.zero_ne_one, ax_psh_none, ax_psh_some, true_and, and_true, and_false, false_and, not_true_eq_false, not_false_eq_true, true_imp_iff, false_imp_iff, imp_self, or_true, true_or, or_false, false_or, and_self, ite_true, ite_false, if_true, if_false, reduceIte, Nat.reduceEqDiff, Nat.reduceLT, Nat.reduceAdd, Nat.reduceMul, Nat.reduceSub, Nat.reduceDiv, Nat.reduceMod, Nat.reduceLeDiff]
    refine hok a' p' (sp, te, k ++ k', m, m') _ e (Fr_trans hfr fr2) ?_ ?_ ?_ ?_ ?_ hl2 haN' hp50' ?_ ?_ ?_
    · simp [wI_at, ha']
    · simp [wI_at, hp']
    · simp [wI_at]
    · simp [wI_at, hs']
    · simp only [List.length_append]
      omega
    · simp [wI_at, h66]
    · refine ⟨?_, ?_, ?_, ?_, ?_, trivial⟩
      · simp [wI_at, q34]
      · simp [wI_at, q35]
      · simp [wI_at, q36]
      · exact CodeAt_congr hcc (fun j _ _ => by simp [wI_at])
      · simp [wI_at]
    · refine ⟨fun j hj => ?_, fun j hj => ?_⟩
      · have := hlow.1 j hj
        have e1 : ¬ j = n + 1 := by omega
        simpa [wI_at, e1] using this
      · have := hlow.2 j hj
        simpa [wI_at] using this
  by_cases hi : c a = 3
  · have haN1 : a + 1 ≤ N := by
      rcases Nat.lt_or_ge a N with e | e
      · exact e
      · have := ht.2.1 a e
        omega
    simp (disch := omega) only [b_Reader_readClause_80, b_Reader_readClause_95, b_Reader_readClause_108, G_0_0 hG, G_0_1 hG, G_0_2 hG, G_0_3 hG, G_0_7 hG, G_0_10 hG, G_0_12 hG, G_0_13 hG, G_0_14 hG, G_0_15 hG, G_0_16 hG, G_0_17 hG, G_1_0 hG, G_1_2 hG, G_1_5 hG, G_2_4 hG, G_2_5 hG, G_3_5 hG, G_3_6 hG, G_3_7 hG, G_3_8 hG, G_3_9 hG, G_5_0 hG, G_5_1 hG, G_6_0 hG, G_6_1 hG, G_6_2 hG, G_6_9 hG, G_6_10 hG, G_6_11 hG, G_6_12 hG, G_6_13 hG, G_7_0 hG, G_7_5 hG, G_8_8 hG, G_8_9 hG, G_9_8 hG, G_9_9 hG, G_10_7 hG, G_10_8 hG, G_10_9 hG, G_10_10 hG, G_10_11 hG, G_11_0 hG, G_12_2 hG, G_12_3 hG, G_12_4 hG, G_12_5 hG, G_12_7 hG, G_12_8 hG, G_12_9 hG, G_12_12 hG, G_12_13 hG, G_12_14 hG, G_12_22 hG, G_12_23 hG, G_12_29 hG, G_12_30 hG, G_12_31 hG, G_12_37 hG, G_12_38 hG, G_12_39 hG, G_12_40 hG, G_12_41 hG, G_12_43 hG, G_12_46 hG, G_12_47 hG, G_12_48 hG, G_25 hG, G_26 hG, G_47 hG, G_58 hG, c_accw_y d hG ht ha haN (w := 10) (by decide) hi, hn, wI_at, n32_add, n32_mul, n32_lt, n32_le, n32_eq, n32_clamp, n32_inT, n32_div, n32_rem, n32_m1, n32_m1', n32_m1lt, n32_ltm1, n32_10, n32_01, Nat.not_lt_zero, Nat.lt_irrefl, Nat.mul_zero, Nat.zero_mul, Nat.zero_add, Nat.add_zero, Nat.reduceEqDiff, Nat.one_ne_zero, Nat.zero_ne_one, ax_psh_none, ax_psh_some, true_and, and_true, and_false, false_and, not_true_eq_false, not_false_eq_true, true_imp_iff, false_imp_iff, imp_self, or_true, true_or, or_false, false_or, and_self, ite_true, ite_false, if_true, if_false, reduceIte, Nat.reduceEqDiff, Nat.reduceLT, Nat.reduceAdd, Nat.reduceMul, Nat.reduceSub, Nat.reduceDiv, Nat.reduceMod, Nat.reduceLeDiff]
    have fr1 : Fr clMod gi (ax_wI (ax_wI gi 6 0 4 (n32 (a + 1))) 36 0 n (n32 1)) := Fr_wI (Fr_wI (Fr_refl _ _) rfl) rfl
    apply htest (d + 1) _ g _ (a + 1) p (s + k.length) (by omega) hG (TokC_cl ht fr1) (by simp [wI_at]) (by simp [wI_at, hp]) (by simp [wI_at, hs]) haN1 (by omega) hp50
    · intro f gi' hk hfr h6 hfN hs'
      simp only [b_Reader_readClause_113, b_Reader_readClause_116, ax_psh_none, ax_psh_some, true_and, and_true, and_false, false_and, not_true_eq_false, not_false_eq_true, true_imp_iff, false_imp_iff, imp_self, or_true, true_or, or_false, false_or, and_self, ite_true, ite_false, if_true, if_false]
      exact hf f gi' (by simp only [pIf, hi, if_true, hk]) (Fr_trans fr1 (Fr_cl hfr)) (h6.trans (fr1 33 0 f rfl)) hfN
    · intro a' p' k' m' gi' hk hfr ha' hp' hs' hl1 hl2 haN' hp50' h66 hc' hlow
      simp only [b_Reader_readClause_113, n32_10, ax_psh_none, ax_psh_some, true_and, and_true, and_false, false_and, not_true_eq_false, not_false_eq_true, true_imp_iff, false_imp_iff, imp_self, or_true, true_or, or_false, false_or, and_self, ite_true, ite_false, if_true, if_false]
      have hlow' : ∀ j, j < s + k.length → gi' 37 0 j = gi 37 0 j ∧ gi' 38 0 j = gi 38 0 j := fun j hj => by
        have := hlow j hj
        simpa [wI_at] using this
      refine fin gi' a' p' true k' m' (by simp only [pIf, hi, if_true, hk]) (Fr_trans fr1 (Fr_cl hfr)) ha' hp' ?_ ?_ (by omega) (by omega) haN' hp50' ?_ ?_ ?_ ?_ ?_ ?_
      · rw [hfr 6 0 7 rfl]
        simp [wI_at, hn]
      · rw [hs', List.length_append]
        congr 1
        omega
      · rw [h66]
        simp [wI_at]
      · rw [hfr 34 0 n rfl]
        simp [wI_at, h34]
      · rw [hfr 35 0 n rfl]
        simp [wI_at, h35]
      · rw [hfr 36 0 n rfl]
        simp [wI_at, b32]
      · rw [CodeAt_append]
        exact ⟨CodeAt_congr hc (fun j _ q => hlow' j q), hc'⟩
      · refine ⟨fun j hj => ?_, fun j hj => hlow' j (by omega)⟩
        rw [hfr 34 0 j rfl, hfr 35 0 j rfl, hfr 36 0 j rfl]
        have e1 : ¬ j = n := by omega
        simp [wI_at, e1]
  · simp (disch := omega) only [b_Reader_readClause_80, b_Reader_readClause_95, G_0_0 hG, G_0_1 hG, G_0_2 hG, G_0_3 hG, G_0_7 hG, G_0_10 hG, G_0_12 hG, G_0_13 hG, G_0_14 hG, G_0_15 hG, G_0_16 hG, G_0_17 hG, G_1_0 hG, G_1_2 hG, G_1_5 hG, G_2_4 hG, G_2_5 hG, G_3_5 hG, G_3_6 hG, G_3_7 hG, G_3_8 hG, G_3_9 hG, G_5_0 hG, G_5_1 hG, G_6_0 hG, G_6_1 hG, G_6_2 hG, G_6_9 hG, G_6_10 hG, G_6_11 hG, G_6_12 hG, G_6_13 hG, G_7_0 hG, G_7_5 hG, G_8_8 hG, G_8_9 hG, G_9_8 hG, G_9_9 hG, G_10_7 hG, G_10_8 hG, G_10_9 hG, G_10_10 hG, G_10_11 hG, G_11_0 hG, G_12_2 hG, G_12_3 hG, G_12_4 hG, G_12_5 hG, G_12_7 hG, G_12_8 hG, G_12_9 hG, G_12_12 hG, G_12_13 hG, G_12_14 hG, G_12_22 hG, G_12_23 hG, G_12_29 hG, G_12_30 hG, G_12_31 hG, G_12_37 hG, G_12_38 hG, G_12_39 hG, G_12_40 hG, G_12_41 hG, G_12_43 hG, G_12_46 hG, G_12_47 hG, G_12_48 hG, G_25 hG, G_26 hG, G_47 hG, G_58 hG, c_accw_n d hG ht ha haN (w := 10) (by decide) hi, hn, wI_at, n32_add, n32_mul, n32_lt, n32_le, n32_eq, n32_clamp, n32_inT, n32_div, n32_rem, n32_m1, n32_m1', n32_m1lt, n32_ltm1, n32_10, n32_01, Nat.not_lt_zero, Nat.lt_irrefl, Nat.mul_zero, Nat.zero_mul, Nat.zero_add, Nat.add_zero, Nat.reduceEqDiff, Nat.one_ne_zero, Nat.zero_ne_one, ax_psh_none, ax_psh_some, true_and, and_true, and_false, false_and, not_true_eq_false, not_false_eq_true, true_imp_iff, false_imp_iff, imp_self, or_true, true_or, or_false, false_or, and_self, ite_true, ite_false, if_true, if_false, reduceIte, Nat.reduceEqDiff, Nat.reduceLT, Nat.reduceAdd, Nat.reduceMul, Nat.reduceSub, Nat.reduceDiv, Nat.reduceMod, Nat.reduceLeDiff]
    refine fin _ a p false [] (fun _ => some true) (by simp only [pIf, hi, if_false, List.append_nil]) (Fr_wI (Fr_refl _ _) rfl) ?_ ?_ ?_ ?_ (by simp) (by omega) haN hp50 ?_ ?_ ?_ ?_ ?_ ?_
    · simp [wI_at, ha]
    · simp [wI_at, hp]
    · simp [wI_at, hn]
    · simp [wI_at, hs]
    · simp [wI_at]
    · simp [wI_at, h34]
    · simp [wI_at, h35]
    · simp [wI_at, b32]
    · rw [List.append_nil]
      exact CodeAt_congr hc (fun j _ _ => by simp [wI_at])
    · refine ⟨fun j hj => ?_, fun j hj => by simp [wI_at]⟩
      have e1 : ¬ j = n := by omega
      simp [wI_at, e1]
theorem rd_readClause {c v : Nat → Nat} {N h : Nat} (hsum : RdC c v N (pSum c v 8) m_Reader_readSum h 8) (htest : RdC c v N (pTest c v 8) m_Reader_readTest h 8) (hh : 1 ≤ h) (D : Nat) (gi : GI) (g : AG) (Q : Option AV → AH → Prop) (a p s n : Nat) (hD : h + 1 ≤ D) (hG : GOK g) (ht : TokC gi c v N) (ha : gi 6 0 4 = n32 a) (hp : gi 6 0 5 = n32 p) (hs : gi 6 0 8 = n32 s) (hn : gi 6 0 7 = n32 n) (hn12 : n < 12) (haN : a ≤ N) (hsa : s ≤ a) (hp50 : p ≤ 50)
    (hf : ∀ f gi', pClause c v a p s = .inl f → Fr clMod gi gi' → gi' 6 0 6 = gi 33 0 f → f ≤ N → Q (some (.inl (n32 0))) (gi', g))
    (hok : ∀ a' p' C gi', pClause c v a p s = .inr (a', p', C) → Fr clMod gi gi' → gi' 6 0 4 = n32 a' → gi' 6 0 5 = n32 p' → gi' 6 0 7 = n32 (n + 1) → gi' 6 0 8 = n32 (s + C.2.2.1.length) → a + C.2.2.1.length ≤ a' → a < a' → a' ≤ N → p' ≤ 50 → gi' 6 0 6 = gi 6 0 6 → CsAt (gi' 34 0) (gi' 35 0) (gi' 36 0) (gi' 37 0) (gi' 38 0) n s [C] → ClLow gi gi' n s → Q (some (.inl (n32 1))) (gi', g)) :
    ax_call D m_Reader_readClause [.inr (.inr (some (6, 0)))] (gi, g) Q := by
  obtain ⟨d, rfl⟩ : ∃ d2, D = d2 + 2 := ⟨D - 2, by omega⟩
  have hN : N ≤ 400 := ht.1
  rw [e_Reader_readClause]
  have fr0 : Fr clMod gi (ax_wI gi 34 0 n (n32 s)) := Fr_wI (Fr_refl _ _) rfl
  have ht0 := TokC_cl ht fr0
  have ha0 : ax_wI gi 34 0 n (n32 s) 6 0 4 = n32 a := by simp [wI_at, ha]
  have lt_of : ∀ x, c a = x → x ≠ 0 → a + 1 ≤ N := fun x hx h0 => by
    rcases Nat.lt_or_ge a N with e | e
    · exact e
    · exact absurd ((ht.2.1 a e).symm.trans hx).symm h0
  by_cases h2 : c a = 2
  · have haN1 := lt_of _ h2 (by decide)
    simp (disch := omega) only [b_Reader_readClause_0, b_Reader_readClause_14, b_Reader_readClause_42, G_0_0 hG, G_0_1 hG, G_0_2 hG, G_0_3 hG, G_0_7 hG, G_0_10 hG, G_0_12 hG, G_0_13 hG, G_0_14 hG, G_0_15 hG, G_0_16 hG, G_0_17 hG, G_1_0 hG, G_1_2 hG, G_1_5 hG, G_2_4 hG, G_2_5 hG, G_3_5 hG, G_3_6 hG, G_3_7 hG, G_3_8 hG, G_3_9 hG, G_5_0 hG, G_5_1 hG, G_6_0 hG, G_6_1 hG, G_6_2 hG, G_6_9 hG, G_6_10 hG, G_6_11 hG, G_6_12 hG, G_6_13 hG, G_7_0 hG, G_7_5 hG, G_8_8 hG, G_8_9 hG, G_9_8 hG, G_9_9 hG, G_10_7 hG, G_10_8 hG, G_10_9 hG, G_10_10 hG, G_10_11 hG, G_11_0 hG, G_12_2 hG, G_12_3 hG, G_12_4 hG, G_12_5 hG, G_12_7 hG, G_12_8 hG, G_12_9 hG, G_12_12 hG, G_12_13 hG, G_12_14 hG, G_12_22 hG, G_12_23 hG, G_12_29 hG, G_12_30 hG, G_12_31 hG, G_12_37 hG, G_12_38 hG, G_12_39 hG, G_12_40 hG, G_12_41 hG, G_12_43 hG, G_12_46 hG, G_12_47 hG, G_12_48 hG, G_25 hG, G_26 hG, G_47 hG, G_58 hG, hn, hn12, hs, c_accw_y d hG ht0 ha0 haN (w := 9) (by decide) h2, wI_at, n32_add, n32_mul, n32_lt, n32_le, n32_eq, n32_clamp, n32_inT, n32_div, n32_rem, n32_m1, n32_m1', n32_m1lt, n32_ltm1, n32_10, n32_01, Nat.not_lt_zero, Nat.lt_irrefl, Nat.mul_zero, Nat.zero_mul, Nat.zero_add, Nat.add_zero, Nat.reduceEqDiff, Nat.one_ne_zero, Nat.zero_ne_one, ax_psh_none, ax_psh_some, true_and, and_true, and_false, false_and, not_true_eq_false, not_false_eq_true, true_imp_iff, false_imp_iff, imp_self, or_true, true_or, or_false, false_or, and_self, ite_true, ite_false, if_true, if_false, reduceIte, Nat.reduceEqDiff, Nat.reduceLT, Nat.reduceAdd, Nat.reduceMul, Nat.reduceSub, Nat.reduceDiv, Nat.reduceMod, Nat.reduceLeDiff]
    have fr1 : Fr clMod gi (ax_wI (ax_wI (ax_wI gi 34 0 n (n32 s)) 6 0 4 (n32 (a + 1))) 35 0 n (n32 1)) := Fr_wI (Fr_wI fr0 rfl) rfl
    refine rd_readIf htest hh (d + 1) _ g Q (a + 1) p s n true [] (fun _ => some 0) (by omega) hG (TokC_cl ht fr1) (by simp [wI_at]) (by simp [wI_at, hp]) (by simp [wI_at, hs]) (by simp [wI_at, hn]) hn12 haN1 (by simp only [List.length_nil]; omega) hp50 (by simp [wI_at]) (by simp [wI_at, b32]) trivial ?_ ?_
    · intro f gi' hk hfr h6 hfN
      exact hf f gi' (by simp only [pClause, h2, if_true]; exact hk) (Fr_trans fr1 hfr) (h6.trans (fr1 33 0 f rfl)) hfN
    · intro a' p' C gi' hk hfr ha' hp' hn' hs' hl1 hl2 haN' hp50' h66 hcs hlow
      simp only [List.length_nil] at hl1
      refine hok a' p' C gi' (by simp only [pClause, h2, if_true]; exact hk) (Fr_trans fr1 hfr) ha' hp' hn' hs' (by omega) (by omega) haN' hp50' (h66.trans (by simp [wI_at])) hcs ⟨fun j hj => ?_, fun j hj => ?_⟩
      · have := hlow.1 j hj
        have e1 : ¬ j = n := by omega
        simpa [wI_at, e1] using this
      · have := hlow.2 j hj
        simpa [wI_at] using this
  · have ha1 : ax_wI (ax_wI gi 34 0 n (n32 s)) 35 0 n (n32 0) 6 0 4 = n32 a := by simp [wI_at, ha]
    have fr1 : Fr clMod gi (ax_wI (ax_wI gi 34 0 n (n32 s)) 35 0 n (n32 0)) := Fr_wI fr0 rfl
    have ht1 := TokC_cl ht fr1
    by_cases h1 : c a = 1
    · have haN1 := lt_of _ h1 (by decide)
      simp (disch := omega) only [b_Reader_readClause_0, b_Reader_readClause_14, b_Reader_readClause_42, b_Reader_readClause_55, b_Reader_readClause_62, b_Reader_readClause_70, G_0_0 hG, G_0_1 hG, G_0_2 hG, G_0_3 hG, G_0_7 hG, G_0_10 hG, G_0_12 hG, G_0_13 hG, G_0_14 hG, G_0_15 hG, G_0_16 hG, G_0_17 hG, G_1_0 hG, G_1_2 hG, G_1_5 hG, G_2_4 hG, G_2_5 hG, G_3_5 hG, G_3_6 hG, G_3_7 hG, G_3_8 hG, G_3_9 hG, G_5_0 hG, G_5_1 hG, G_6_0 hG, G_6_1 hG, G_6_2 hG, G_6_9 hG, G_6_10 hG, G_6_11 hG, G_6_12 hG, G_6_13 hG, G_7_0 hG, G_7_5 hG, G_8_8 hG, G_8_9 hG, G_9_8 hG, G_9_9 hG, G_10_7 hG, G_10_8 hG, G_10_9 hG, G_10_10 hG, G_10_11 hG, G_11_0 hG, G_12_2 hG, G_12_3 hG, G_12_4 hG, G_12_5 hG, G_12_7 hG, G_12_8 hG, G_12_9 hG, G_12_12 hG, G_12_13 hG, G_12_14 hG, G_12_22 hG, G_12_23 hG, G_12_29 hG, G_12_30 hG, G_12_31 hG, G_12_37 hG, G_12_38 hG, G_12_39 hG, G_12_40 hG, G_12_41 hG, G_12_43 hG, G_12_46 hG, G_12_47 hG, G_12_48 hG, G_25 hG, G_26 hG, G_47 hG, G_58 hG, hn, hn12, hs, c_accw_n d hG ht0 ha0 haN (w := 9) (by decide) h2, c_accw_y d hG ht1 ha1 haN (w := 8) (by decide) h1, wI_at, n32_add, n32_mul, n32_lt, n32_le, n32_eq, n32_clamp, n32_inT, n32_div, n32_rem, n32_m1, n32_m1', n32_m1lt, n32_ltm1, n32_10, n32_01, Nat.not_lt_zero, Nat.lt_irrefl, Nat.mul_zero, Nat.zero_mul, Nat.zero_add, Nat.add_zero, Nat.reduceEqDiff, Nat.one_ne_zero, Nat.zero_ne_one, ax_psh_none, ax_psh_some, true_and, and_true, and_false, false_and, not_true_eq_false, not_false_eq_true, true_imp_iff, false_imp_iff, imp_self, or_true, true_or, or_false, false_or, and_self, ite_true, ite_false, if_true, if_false, reduceIte, Nat.reduceEqDiff, Nat.reduceLT, Nat.reduceAdd, Nat.reduceMul, Nat.reduceSub, Nat.reduceDiv, Nat.reduceMod, Nat.reduceLeDiff]
      have fr2 : Fr clMod gi (ax_wI (ax_wI (ax_wI gi 34 0 n (n32 s)) 35 0 n (n32 0)) 6 0 4 (n32 (a + 1))) := Fr_wI fr1 rfl
      apply hsum (d + 1) _ g _ (a + 1) p s (by omega) hG (TokC_cl ht fr2) (by simp [wI_at]) (by simp [wI_at, hp]) (by simp [wI_at, hs]) haN1 (by omega) hp50
      · intro f gi' hk hfr h6 hfN hs'
        simp only [b_Reader_readClause_75, b_Reader_readClause_78, ax_psh_none, ax_psh_some, true_and, and_true, and_false, false_and, not_true_eq_false, not_false_eq_true, true_imp_iff, false_imp_iff, imp_self, or_true, true_or, or_false, false_or, and_self, ite_true, ite_false, if_true, if_false]
        exact hf f gi' (by simp [pClause, h1, hk]) (Fr_trans fr2 (Fr_cl hfr)) (h6.trans (fr2 33 0 f rfl)) hfN
      · intro a1 p1 k m gi1 hk hfr ha1' hp1 hs1 hl1 hl2 haN1' hp501 h66 hc1 hlow1
        simp only [b_Reader_readClause_75, n32_10, ax_psh_none, ax_psh_some, true_and, and_true, and_false, false_and, not_true_eq_false, not_false_eq_true, true_imp_iff, false_imp_iff, imp_self, or_true, true_or, or_false, false_or, and_self, ite_true, ite_false, if_true, if_false]
        have fr3 := Fr_trans fr2 (Fr_cl hfr)
        refine rd_readIf htest hh (d + 1) gi1 g Q a1 p1 s n false k m (by omega) hG (TokC_cl ht fr3) ha1' hp1 hs1 ?_ hn12 haN1' (by omega) hp501 ?_ ?_ hc1 ?_ ?_
        · rw [hfr 6 0 7 rfl]
          simp [wI_at, hn]
        · rw [hfr 34 0 n rfl]
          simp [wI_at]
        · rw [hfr 35 0 n rfl]
          simp [wI_at, b32]
        · intro f gi' hk' hfr' h6 hfN
          exact hf f gi' (by simp [pClause, h1, hk, hk']) (Fr_trans fr3 hfr') (h6.trans (fr3 33 0 f rfl)) hfN
        · intro a' p' C gi' hk' hfr' ha' hp' hn' hs' hl1' hl2' haN' hp50' h66' hcs hlow
          refine hok a' p' C gi' (by simp [pClause, h1, hk, hk']) (Fr_trans fr3 hfr') ha' hp' hn' hs' (by omega) (by omega) haN' hp50' (h66'.trans (h66.trans (by simp [wI_at]))) hcs ⟨fun j hj => ?_, fun j hj => ?_⟩
          · have := hlow.1 j hj
            rw [hfr 34 0 j rfl, hfr 35 0 j rfl, hfr 36 0 j rfl] at this
            have e1 : ¬ j = n := by omega
            simpa [wI_at, e1] using this
          · have w1 := hlow.2 j hj
            have w2 := hlow1 j hj
            rw [w2.1, w2.2] at w1
            simpa [wI_at] using w1
    · simp (disch := omega) only [b_Reader_readClause_0, b_Reader_readClause_14, b_Reader_readClause_42, b_Reader_readClause_55, b_Reader_readClause_62, b_Reader_readClause_65, b_Reader_readClause_69, G_0_0 hG, G_0_1 hG, G_0_2 hG, G_0_3 hG, G_0_7 hG, G_0_10 hG, G_0_12 hG, G_0_13 hG, G_0_14 hG, G_0_15 hG, G_0_16 hG, G_0_17 hG, G_1_0 hG, G_1_2 hG, G_1_5 hG, G_2_4 hG, G_2_5 hG, G_3_5 hG, G_3_6 hG, G_3_7 hG, G_3_8 hG, G_3_9 hG, G_5_0 hG, G_5_1 hG, G_6_0 hG, G_6_1 hG, G_6_2 hG, G_6_9 hG, G_6_10 hG, G_6_11 hG, G_6_12 hG, G_6_13 hG, G_7_0 hG, G_7_5 hG, G_8_8 hG, G_8_9 hG, G_9_8 hG, G_9_9 hG, G_10_7 hG, G_10_8 hG, G_10_9 hG, G_10_10 hG, G_10_11 hG, G_11_0 hG, G_12_2 hG, G_12_3 hG, G_12_4 hG, G_12_5 hG, G_12_7 hG, G_12_8 hG, G_12_9 hG, G_12_12 hG, G_12_13 hG, G_12_14 hG, G_12_22 hG, G_12_23 hG, G_12_29 hG, G_12_30 hG, G_12_31 hG, G_12_37 hG, G_12_38 hG, G_12_39 hG, G_12_40 hG, G_12_41 hG, G_12_43 hG, G_12_46 hG, G_12_47 hG, G_12_48 hG, G_25 hG, G_26 hG, G_47 hG, G_58 hG, hn, hn12, hs, c_accw_n d hG ht0 ha0 haN (w := 9) (by decide) h2, c_accw_n d hG ht1 ha1 haN (w := 8) (by decide) h1, c_rfail d hG ha1 (by omega), wI_at, n32_add, n32_mul, n32_lt, n32_le, n32_eq, n32_clamp, n32_inT, n32_div, n32_rem, n32_m1, n32_m1', n32_m1lt, n32_ltm1, n32_10, n32_01, Nat.not_lt_zero, Nat.lt_irrefl, Nat.mul_zero, Nat.zero_mul, Nat.zero_add, Nat.add_zero, Nat.reduceEqDiff, Nat.one_ne_zero, Nat.zero_ne_one, ax_psh_none, ax_psh_some, true_and, and_true, and_false, false_and, not_true_eq_false, not_false_eq_true, true_imp_iff, false_imp_iff, imp_self, or_true, true_or, or_false, false_or, and_self, ite_true, ite_false, if_true, if_false, reduceIte, Nat.reduceEqDiff, Nat.reduceLT, Nat.reduceAdd, Nat.reduceMul, Nat.reduceSub, Nat.reduceDiv, Nat.reduceMod, Nat.reduceLeDiff]
      refine hf a _ (by simp only [pClause, h1, h2, if_false]) (Fr_wI fr1 rfl) ?_ haN
      simp [wI_at]
