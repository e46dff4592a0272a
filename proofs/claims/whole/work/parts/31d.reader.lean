/-! the class's reader: tests -/
theorem pTLoop_y {c : Nat → Nat} {w kk s n a p a' p' : Nat} {sh : Bool} {it : PI Bool} {k k' : List (Nat × Nat)} {m m' : (Nat → Int) → Option Bool} (h : c a = w) (hk : it (a + 1) p (s + k.length + 1) = .inr (a', p', k', m')) : pTLoop c w kk sh it s (n + 1) a p k m = pTLoop c w kk sh it s n a' p' (k ++ ((kk, s + k.length + 1 + k'.length) :: k')) (fun e => dec2 sh (m e) (m' e)) := by
  show (if c a = w then _ else _) = _
  rw [if_pos h, hk]
theorem pTLoop_f {c : Nat → Nat} {w kk s n a p f : Nat} {sh : Bool} {it : PI Bool} {k : List (Nat × Nat)} {m : (Nat → Int) → Option Bool} (h : c a = w) (hk : it (a + 1) p (s + k.length + 1) = .inl f) : pTLoop c w kk sh it s (n + 1) a p k m = .inl f := by
  show (if c a = w then _ else _) = _
  rw [if_pos h, hk]
theorem pTLoop_e {c : Nat → Nat} {w kk s n a p : Nat} {sh : Bool} {it : PI Bool} {k : List (Nat × Nat)} {m : (Nat → Int) → Option Bool} (h : c a ≠ w) : pTLoop c w kk sh it s (n + 1) a p k m = .inr (a, p, k, m) := by
  show (if c a = w then _ else _) = _
  rw [if_neg h]
/-- a leap made, and what stands behind it -/
theorem Code_leap {gi gi1 gi' : GI} {s K t : Nat} {k k' : List (Nat × Nat)} (h1 : CodeAt (gi 37 0) (gi 38 0) s k) (e1 : gi1 = emitG gi (s + k.length) (n32 K) (n32 0)) (h2 : CodeAt (gi' 37 0) (gi' 38 0) (s + k.length + 1) k') (h3 : ∀ j, j < s + k.length + 1 → gi' 37 0 j = gi1 37 0 j ∧ gi' 38 0 j = gi1 38 0 j) :
    CodeAt (ax_wI gi' 38 0 (s + k.length) (n32 t) 37 0) (ax_wI gi' 38 0 (s + k.length) (n32 t) 38 0) s (k ++ ((K, t) :: k')) := by
  have e2 : ∀ j, ax_wI gi' 38 0 (s + k.length) (n32 t) 37 0 j = gi' 37 0 j := fun j => by simp [wI_at]
  have e3 : ∀ j, ax_wI gi' 38 0 (s + k.length) (n32 t) 38 0 j = if j = s + k.length then n32 t else gi' 38 0 j := fun j => by simp [wI_at]
  rw [CodeAt_append]
  refine ⟨CodeAt_congr h1 (fun j q1 q2 => ?_), ?_, ?_, CodeAt_congr h2 (fun j q1 q2 => ?_)⟩
  · rw [e2, e3, if_neg (by omega)]
    have := h3 j (by omega)
    have w := emitG_lt gi (s := s + k.length) (n32 K) (n32 0) (j := j) (by omega)
    rw [← e1] at w
    exact ⟨this.1.trans w.1, this.2.trans w.2⟩
  · rw [e2, (h3 _ (by omega)).1, e1]
    simp [emitG, wI_at]
  · rw [e3, if_pos rfl]
  · rw [e2, e3, if_neg (by omega)]
    exact ⟨rfl, rfl⟩
theorem rd_readTest_loop {c v : Nat → Nat} {N r h : Nat} {it : PI Bool} (hit : RdC c v N it m_Reader_readBoth h r) :
    ∀ n : Nat, n ≤ 400 → ∀ (d : Nat) (gi : GI) (g : AG) (Q : Option AV → AH → Prop) (a p s : Nat) (k : List (Nat × Nat)) (m : (Nat → Int) → Option Bool) (o4 : Option AV), h ≤ d → 1 ≤ d → GOK g → TokC gi c v N → gi 6 0 4 = n32 a → gi 6 0 5 = n32 p → gi 6 0 8 = n32 (s + k.length) → a ≤ N → s + k.length ≤ a → p ≤ 50 → CodeAt (gi 37 0) (gi 38 0) s k →
    (∀ f gi', pTLoop c 4 10 true it s n a p k m = .inl f → Fr rdMod gi gi' → gi' 6 0 6 = gi 33 0 f → f ≤ N → (∃ s', s' ≤ 401 ∧ gi' 6 0 8 = n32 s') → Q (some (.inl (n32 0))) (gi', g)) →
    (∀ a' p' k' m' gi', pTLoop c 4 10 true it s n a p k m = .inr (a', p', k', m') → Fr rdMod gi gi' → gi' 6 0 4 = n32 a' → gi' 6 0 5 = n32 p' → gi' 6 0 8 = n32 (s + k'.length) → a + k'.length ≤ a' + k.length → a ≤ a' → a' ≤ N → p' ≤ 50 → gi' 6 0 6 = gi 6 0 6 → CodeAt (gi' 37 0) (gi' 38 0) s k' → (∀ j, j < s → gi' 37 0 j = gi 37 0 j ∧ gi' 38 0 j = gi 38 0 j) → Q (some (.inl (n32 1))) (gi', g)) →
    Runs d (m_Reader_readTest, 8, [some (.inr (.inr (some (6, 0)))), some (.inl (n32 (8 - r))), some (.inl (n32 1)), some (.inl (n32 (400 - n))), o4], []) (gi, g) Q := by
  intro n
  induction n with
  | zero =>
    intro _ d gi g Q a p s k m o4 hd hd1 hG ht ha hp hs haN hsa hp50 hc hf hok
    simp (disch := omega) only [b_Reader_readTest_8, b_Reader_readTest_61, Nat.sub_zero, n32_add, n32_mul, n32_lt, n32_le, n32_eq, n32_clamp, n32_inT, n32_div, n32_rem, n32_m1, n32_m1', n32_m1lt, n32_ltm1, n32_10, n32_01, Nat.not_lt_zero, Nat.lt_irrefl, Nat.mul_zero, Nat.zero_mul, Nat.zero_add, Nat.add_zero, Nat.reduceEqDiff, Nat.one_ne_zero, Nat.zero_ne_one, ax_psh_none, ax_psh_some, true_and, and_true, and_false, false_and, not_true_eq_false, not_false_eq_true, true_imp_iff, false_imp_iff, imp_self, or_true, true_or, or_false, false_or, and_self, ite_true, ite_false, if_true, if_false]
    exact hok a p k m gi rfl (Fr_refl _ _) ha hp hs (by omega) (by omega) haN hp50 rfl hc (fun _ _ => ⟨rfl, rfl⟩)
  | succ n ih =>
    intro hn d gi g Q a p s k m o4 hd hd1 hG ht ha hp hs haN hsa hp50 hc hf hok
    have hN : N ≤ 400 := ht.1
    have hlt : 400 - (n + 1) < 400 := by omega
    have hsucc : 400 - (n + 1) + 1 = 400 - n := by omega
    obtain ⟨d, rfl⟩ : ∃ d2, d = d2 + 1 := ⟨d - 1, by omega⟩
    by_cases h1 : c a = 4
    · have haN1 : a + 1 ≤ N := by
        rcases Nat.lt_or_ge a N with e | e
        · exact e
        · have := ht.2.1 a e
          omega
      have hlen : s + k.length < 400 := by omega
      have hs1 : ax_wI gi 6 0 4 (n32 (a + 1)) 6 0 8 = n32 (s + k.length) := by simp [wI_at, hs]
      simp (disch := omega) only [b_Reader_readTest_8, b_Reader_readTest_15, b_Reader_readTest_19, b_Reader_readTest_26, b_Reader_readTest_29, b_Reader_readTest_36, hlt, c_accw_y d hG ht ha haN (w := 11) (by decide) h1, c_emit d hG hs1 (by omega), Nat.min_eq_left (Nat.le_of_lt hlen), n32_add, n32_mul, n32_lt, n32_le, n32_eq, n32_clamp, n32_inT, n32_div, n32_rem, n32_m1, n32_m1', n32_m1lt, n32_ltm1, n32_10, n32_01, Nat.not_lt_zero, Nat.lt_irrefl, Nat.mul_zero, Nat.zero_mul, Nat.zero_add, Nat.add_zero, Nat.reduceEqDiff, Nat.one_ne_zero, Nat.zero_ne_one, ax_psh_none, ax_psh_some, true_and, and_true, and_false, false_and, not_true_eq_false, not_false_eq_true, true_imp_iff, false_imp_iff, imp_self, or_true, true_or, or_false, false_or, and_self, ite_true, ite_false, if_true, if_false]
      generalize he : emitG (ax_wI gi 6 0 4 (n32 (a + 1))) (s + k.length) (n32 10) (n32 0) = gi1
      have fr1 : Fr rdMod gi gi1 := by
        rw [← he]
        exact Fr_emit (Fr_wI (Fr_refl _ _) rfl)
      have e4 : gi1 6 0 4 = n32 (a + 1) := by
        rw [← he, emitG_6]
        simp [wI_at]
      have e5 : gi1 6 0 5 = n32 p := by
        rw [← he, emitG_6]
        simp [wI_at, hp]
      have e6 : gi1 6 0 6 = gi 6 0 6 := by
        rw [← he, emitG_6]
        simp [wI_at]
      have e8 : gi1 6 0 8 = n32 (s + k.length + 1) := by
        rw [← he, emitG_6, if_pos rfl]
      apply hit (d + 1) gi1 g _ (a + 1) p (s + k.length + 1) hd hG (TokC_fr ht fr1) e4 e5 e8 haN1 (by omega) hp50
      · intro f gi' hk hfr h6 hfN ⟨s', hs1, hs2⟩
        have hfr' := Fr_trans fr1 hfr
        simp (disch := omega) only [ax_psh_none, ax_psh_some, true_and, and_true, and_false, false_and, not_true_eq_false, not_false_eq_true, true_imp_iff, false_imp_iff, imp_self, or_true, true_or, or_false, false_or, and_self, ite_true, ite_false, if_true, if_false, b_Reader_readTest_43, G_0_0 hG, G_0_1 hG, G_0_2 hG, G_0_3 hG, G_0_7 hG, G_0_10 hG, G_0_12 hG, G_0_13 hG, G_0_14 hG, G_0_15 hG, G_0_16 hG, G_0_17 hG, G_1_0 hG, G_1_2 hG, G_1_5 hG, G_2_4 hG, G_2_5 hG, G_3_5 hG, G_3_6 hG, G_3_7 hG, G_3_8 hG, G_3_9 hG, G_5_0 hG, G_5_1 hG, G_6_0 hG, G_6_1 hG, G_6_2 hG, G_6_9 hG, G_6_10 hG, G_6_11 hG, G_6_12 hG, G_6_13 hG, G_7_0 hG, G_7_5 hG, G_8_8 hG, G_8_9 hG, G_9_8 hG, G_9_9 hG, G_10_7 hG, G_10_8 hG, G_10_9 hG, G_10_10 hG, G_10_11 hG, G_11_0 hG, G_12_2 hG, G_12_3 hG, G_12_4 hG, G_12_5 hG, G_12_7 hG, G_12_8 hG, G_12_9 hG, G_12_12 hG, G_12_13 hG, G_12_14 hG, G_12_22 hG, G_12_23 hG, G_12_29 hG, G_12_30 hG, G_12_31 hG, G_12_37 hG, G_12_38 hG, G_12_39 hG, G_12_40 hG, G_12_41 hG, G_12_43 hG, G_12_46 hG, G_12_47 hG, G_12_48 hG, G_25 hG, G_26 hG, G_47 hG, G_58 hG, n32_add, n32_mul, n32_lt, n32_le, n32_eq, n32_clamp, n32_inT, n32_div, n32_rem, n32_m1, n32_m1', n32_m1lt, n32_ltm1, n32_10, n32_01, Nat.not_lt_zero, Nat.lt_irrefl, Nat.mul_zero, Nat.zero_mul, Nat.zero_add, Nat.add_zero, Nat.reduceEqDiff, Nat.one_ne_zero, Nat.zero_ne_one, hs2, hsucc]
        have z : Runs (d + 1) (m_Reader_readTest, 61, [some (.inr (.inr (some (6, 0)))), some (.inl (n32 (8 - r))), some (.inl (n32 0)), some (.inl (n32 (400 - n))), some (.inl (n32 (s + k.length)))], []) (ax_wI gi' 38 0 (s + k.length) (n32 s'), g) Q := by
          simp only [b_Reader_readTest_61, ax_psh_none, ax_psh_some, true_and, and_true, and_false, false_and, not_true_eq_false, not_false_eq_true, true_imp_iff, false_imp_iff, imp_self, or_true, true_or, or_false, false_or, and_self, ite_true, ite_false, if_true, if_false]
          refine hf f _ (pTLoop_f h1 hk) (Fr_wI hfr' rfl) ?_ hfN ⟨s', hs1, by simp [wI_at, hs2]⟩
          simp only [wI_at, ax_psh_none, ax_psh_some, true_and, and_true, and_false, false_and, not_true_eq_false, not_false_eq_true, true_imp_iff, false_imp_iff, imp_self, or_true, true_or, or_false, false_or, and_self, ite_true, ite_false, if_true, if_false, reduceIte, Nat.reduceEqDiff, Nat.reduceLT, Nat.reduceAdd, Nat.reduceMul, Nat.reduceSub, Nat.reduceDiv, Nat.reduceMod, Nat.reduceLeDiff]
          exact h6.trans (fr1 33 0 f rfl)
        rw [b_Reader_readTest_8, b_Reader_readTest_15]
        exact ⟨fun _ => ⟨fun _ => z, fun q => absurd rfl q⟩, fun _ => z⟩
      · intro a' p' k' m' gi' hk hfr ha' hp' hs' hl1 hl2 haN' hp50' h66 hc' hlow
        have hfr' := Fr_trans fr1 hfr
        simp (disch := omega) only [ax_psh_none, ax_psh_some, true_and, and_true, and_false, false_and, not_true_eq_false, not_false_eq_true, true_imp_iff, false_imp_iff, imp_self, or_true, true_or, or_false, false_or, and_self, ite_true, ite_false, if_true, if_false, b_Reader_readTest_43, G_0_0 hG, G_0_1 hG, G_0_2 hG, G_0_3 hG, G_0_7 hG, G_0_10 hG, G_0_12 hG, G_0_13 hG, G_0_14 hG, G_0_15 hG, G_0_16 hG, G_0_17 hG, G_1_0 hG, G_1_2 hG, G_1_5 hG, G_2_4 hG, G_2_5 hG, G_3_5 hG, G_3_6 hG, G_3_7 hG, G_3_8 hG, G_3_9 hG, G_5_0 hG, G_5_1 hG, G_6_0 hG, G_6_1 hG, G_6_2 hG, G_6_9 hG, G_6_10 hG, G_6_11 hG, G_6_12 hG, G_6_13 hG, G_7_0 hG, G_7_5 hG, G_8_8 hG, G_8_9 hG, G_9_8 hG, G_9_9 hG, G_10_7 hG, G_10_8 hG, G_10_9 hG, G_10_10 hG, G_10_11 hG, G_11_0 hG, G_12_2 hG, G_12_3 hG, G_12_4 hG, G_12_5 hG, G_12_7 hG, G_12_8 hG, G_12_9 hG, G_12_12 hG, G_12_13 hG, G_12_14 hG, G_12_22 hG, G_12_23 hG, G_12_29 hG, G_12_30 hG, G_12_31 hG, G_12_37 hG, G_12_38 hG, G_12_39 hG, G_12_40 hG, G_12_41 hG, G_12_43 hG, G_12_46 hG, G_12_47 hG, G_12_48 hG, G_25 hG, G_26 hG, G_47 hG, G_58 hG, n32_add, n32_mul, n32_lt, n32_le, n32_eq, n32_clamp, n32_inT, n32_div, n32_rem, n32_m1, n32_m1', n32_m1lt, n32_ltm1, n32_10, n32_01, Nat.not_lt_zero, Nat.lt_irrefl, Nat.mul_zero, Nat.zero_mul, Nat.zero_add, Nat.add_zero, Nat.reduceEqDiff, Nat.one_ne_zero, Nat.zero_ne_one, hs', hsucc]
        have hc1 : CodeAt (ax_wI gi 6 0 4 (n32 (a + 1)) 37 0) (ax_wI gi 6 0 4 (n32 (a + 1)) 38 0) s k := CodeAt_congr hc (fun j _ _ => by simp [wI_at])
        have hcc := Code_leap (t := s + k.length + 1 + k'.length) hc1 he.symm hc' hlow
        apply ih (by omega) (d + 1) _ g Q a' p' s (k ++ ((10, s + k.length + 1 + k'.length) :: k')) (fun e => dec2 true (m e) (m' e)) _ hd hd1 hG (TokC_fr ht (Fr_wI hfr' rfl)) (by simp [wI_at, ha']) (by simp [wI_at, hp']) (by simp only [wI_at, ax_psh_none, ax_psh_some, true_and, and_true, and_false, false_and, not_true_eq_false, not_false_eq_true, true_imp_iff, false_imp_iff, imp_self, or_true, true_or, or_false, false_or, and_self, ite_true, ite_false, if_true, if_false, reduceIte, Nat.reduceEqDiff, Nat.reduceLT, Nat.reduceAdd, Nat.reduceMul, Nat.reduceSub, Nat.reduceDiv, Nat.reduceMod, Nat.reduceLeDiff, hs', List.length_append, List.length_cons]; congr 1; omega) haN' (by simp only [List.length_append, List.length_cons]; omega) hp50' hcc
        · intro f gi'' q1 q2 q3 q4 q5
          refine hf f gi'' ((pTLoop_y h1 hk).trans q1) (Fr_trans (Fr_wI hfr' rfl) q2) (q3.trans ?_) q4 q5
          exact Fr_wI (a := 0) (v := n32 (s + k.length + 1 + k'.length)) (j := s + k.length) (s := 38) hfr' rfl 33 0 f rfl
        · intro a'' p'' k'' m'' gi'' q1 q2 q3 q4 q5 q6 q7 q8 q9 q9b q10 q11
          simp only [List.length_append, List.length_cons] at q6
          refine hok a'' p'' k'' m'' gi'' ((pTLoop_y h1 hk).trans q1) (Fr_trans (Fr_wI hfr' rfl) q2) q3 q4 q5 (by omega) (by omega) q8 q9 ?_ q10 (fun j hj => ?_)
          · rw [q9b]
            simp only [wI_at, ax_psh_none, ax_psh_some, true_and, and_true, and_false, false_and, not_true_eq_false, not_false_eq_true, true_imp_iff, false_imp_iff, imp_self, or_true, true_or, or_false, false_or, and_self, ite_true, ite_false, if_true, if_false, reduceIte, Nat.reduceEqDiff, Nat.reduceLT, Nat.reduceAdd, Nat.reduceMul, Nat.reduceSub, Nat.reduceDiv, Nat.reduceMod, Nat.reduceLeDiff]
            exact h66.trans e6
          · have w1 := q11 j hj
            have w3 := hlow j (by omega)
            have w4 := emitG_lt (ax_wI gi 6 0 4 (n32 (a + 1))) (s := s + k.length) (n32 10) (n32 0) (j := j) (by omega)
            rw [he] at w4
            have e38 : ax_wI gi' 38 0 (s + k.length) (n32 (s + k.length + 1 + k'.length)) 38 0 j = gi' 38 0 j := by
              rw [wI_at, if_neg (by omega)]
            have e37 : ax_wI gi' 38 0 (s + k.length) (n32 (s + k.length + 1 + k'.length)) 37 0 j = gi' 37 0 j := by
              rw [wI_at, if_neg (by omega)]
            rw [e37, e38] at w1
            refine ⟨w1.1.trans (w3.1.trans (w4.1.trans ?_)), w1.2.trans (w3.2.trans (w4.2.trans ?_))⟩ <;> simp [wI_at]
    · simp (disch := omega) only [b_Reader_readTest_8, b_Reader_readTest_15, b_Reader_readTest_19, b_Reader_readTest_26, b_Reader_readTest_61, hlt, c_accw_n d hG ht ha haN (w := 11) (by decide) h1, n32_add, n32_mul, n32_lt, n32_le, n32_eq, n32_clamp, n32_inT, n32_div, n32_rem, n32_m1, n32_m1', n32_m1lt, n32_ltm1, n32_10, n32_01, Nat.not_lt_zero, Nat.lt_irrefl, Nat.mul_zero, Nat.zero_mul, Nat.zero_add, Nat.add_zero, Nat.reduceEqDiff, Nat.one_ne_zero, Nat.zero_ne_one, ax_psh_none, ax_psh_some, true_and, and_true, and_false, false_and, not_true_eq_false, not_false_eq_true, true_imp_iff, false_imp_iff, imp_self, or_true, true_or, or_false, false_or, and_self, ite_true, ite_false, if_true, if_false]
      exact hok a p k m gi (pTLoop_e h1) (Fr_refl _ _) ha hp hs (by omega) (by omega) haN hp50 rfl hc (fun _ _ => ⟨rfl, rfl⟩)
theorem rd_readTest {c v : Nat → Nat} {N r h : Nat} {it : PI Bool} (hh : 1 ≤ h) (hit : RdC c v N it m_Reader_readBoth h r) : RdC c v N (pTSeq c 4 10 true it) m_Reader_readTest (h + 1) r := by
  intro D gi g Q a p s hD hG ht ha hp hs haN hsa hp50 hf hok
  obtain ⟨d, rfl⟩ : ∃ d2, D = d2 + 1 := ⟨D - 1, by omega⟩
  rw [e_Reader_readTest, b_Reader_readTest_0]
  apply hit d gi g _ a p s (by omega) hG ht ha hp hs haN hsa hp50
  · intro f gi' hk hfr h6 hfN hs'
    have z : Runs d (m_Reader_readTest, 61, [some (.inr (.inr (some (6, 0)))), some (.inl (n32 (8 - r))), some (.inl (n32 0)), some (.inl (n32 0)), none], []) (gi', g) Q := by
      simp only [b_Reader_readTest_61, ax_psh_none, ax_psh_some, true_and, and_true, and_false, false_and, not_true_eq_false, not_false_eq_true, true_imp_iff, false_imp_iff, imp_self, or_true, true_or, or_false, false_or, and_self, ite_true, ite_false, if_true, if_false]
      exact hf f gi' (by simp only [pTSeq, hk]) hfr h6 hfN hs'
    simp only [ax_psh_none, ax_psh_some, true_and, and_true, and_false, false_and, not_true_eq_false, not_false_eq_true, true_imp_iff, false_imp_iff, imp_self, or_true, true_or, or_false, false_or, and_self, ite_true, ite_false, if_true, if_false, b_Reader_readTest_5]
    rw [b_Reader_readTest_8, b_Reader_readTest_15]
    exact ⟨fun _ => ⟨fun _ => z, fun q => absurd rfl q⟩, fun _ => z⟩
  · intro a' p' k m gi' hk hfr ha' hp' hs' hl1 hl2 haN' hp50' h66 hc' hlow
    simp only [ax_psh_none, ax_psh_some, true_and, and_true, and_false, false_and, not_true_eq_false, not_false_eq_true, true_imp_iff, false_imp_iff, imp_self, or_true, true_or, or_false, false_or, and_self, ite_true, ite_false, if_true, if_false, b_Reader_readTest_5]
    apply rd_readTest_loop hit 400 (by omega) d gi' g Q a' p' s k m none (by omega) (by omega) hG (TokC_fr ht hfr) ha' hp' hs' haN' (by omega) hp50' hc'
    · intro f gi'' q1 q2 q3 q4 q5
      exact hf f gi'' (by simp only [pTSeq, hk]; exact q1) (Fr_trans hfr q2) (q3.trans (hfr 33 0 f rfl)) q4 q5
    · intro a'' p'' k'' m'' gi'' q1 q2 q3 q4 q5 q6 q7 q8 q9 q9b q10 q11
      exact hok a'' p'' k'' m'' gi'' (by simp only [pTSeq, hk]; exact q1) (Fr_trans hfr q2) q3 q4 q5 (by omega) (by omega) q8 q9 (q9b.trans h66) q10 (fun j hj => ⟨(q11 j hj).1.trans (hlow j hj).1, (q11 j hj).2.trans (hlow j hj).2⟩)
theorem rd_readBoth_loop {c v : Nat → Nat} {N r h : Nat} {it : PI Bool} (hit : RdC c v N it m_Reader_readPlain h r) :
    ∀ n : Nat, n ≤ 400 → ∀ (d : Nat) (gi : GI) (g : AG) (Q : Option AV → AH → Prop) (a p s : Nat) (k : List (Nat × Nat)) (m : (Nat → Int) → Option Bool) (o4 : Option AV), h ≤ d → 1 ≤ d → GOK g → TokC gi c v N → gi 6 0 4 = n32 a → gi 6 0 5 = n32 p → gi 6 0 8 = n32 (s + k.length) → a ≤ N → s + k.length ≤ a → p ≤ 50 → CodeAt (gi 37 0) (gi 38 0) s k →
    (∀ f gi', pTLoop c 5 11 false it s n a p k m = .inl f → Fr rdMod gi gi' → gi' 6 0 6 = gi 33 0 f → f ≤ N → (∃ s', s' ≤ 401 ∧ gi' 6 0 8 = n32 s') → Q (some (.inl (n32 0))) (gi', g)) →
    (∀ a' p' k' m' gi', pTLoop c 5 11 false it s n a p k m = .inr (a', p', k', m') → Fr rdMod gi gi' → gi' 6 0 4 = n32 a' → gi' 6 0 5 = n32 p' → gi' 6 0 8 = n32 (s + k'.length) → a + k'.length ≤ a' + k.length → a ≤ a' → a' ≤ N → p' ≤ 50 → gi' 6 0 6 = gi 6 0 6 → CodeAt (gi' 37 0) (gi' 38 0) s k' → (∀ j, j < s → gi' 37 0 j = gi 37 0 j ∧ gi' 38 0 j = gi 38 0 j) → Q (some (.inl (n32 1))) (gi', g)) →
    Runs d (m_Reader_readBoth, 8, [some (.inr (.inr (some (6, 0)))), some (.inl (n32 (8 - r))), some (.inl (n32 1)), some (.inl (n32 (400 - n))), o4], []) (gi, g) Q := by
  intro n
  induction n with
  | zero =>
    intro _ d gi g Q a p s k m o4 hd hd1 hG ht ha hp hs haN hsa hp50 hc hf hok
    simp (disch := omega) only [b_Reader_readBoth_8, b_Reader_readBoth_61, Nat.sub_zero, n32_add, n32_mul, n32_lt, n32_le, n32_eq, n32_clamp, n32_inT, n32_div, n32_rem, n32_m1, n32_m1', n32_m1lt, n32_ltm1, n32_10, n32_01, Nat.not_lt_zero, Nat.lt_irrefl, Nat.mul_zero, Nat.zero_mul, Nat.zero_add, Nat.add_zero, Nat.reduceEqDiff, Nat.one_ne_zero, Nat.zero_ne_one, ax_psh_none, ax_psh_some, true_and, and_true, and_false, false_and, not_true_eq_false, not_false_eq_true, true_imp_iff, false_imp_iff, imp_self, or_true, true_or, or_false, false_or, and_self, ite_true, ite_false, if_true, if_false]
    exact hok a p k m gi rfl (Fr_refl _ _) ha hp hs (by omega) (by omega) haN hp50 rfl hc (fun _ _ => ⟨rfl, rfl⟩)
  | succ n ih =>
    intro hn d gi g Q a p s k m o4 hd hd1 hG ht ha hp hs haN hsa hp50 hc hf hok
    have hN : N ≤ 400 := ht.1
    have hlt : 400 - (n + 1) < 400 := by omega
    have hsucc : 400 - (n + 1) + 1 = 400 - n := by omega
    obtain ⟨d, rfl⟩ : ∃ d2, d = d2 + 1 := ⟨d - 1, by omega⟩
    by_cases h1 : c a = 5
    · have haN1 : a + 1 ≤ N := by
        rcases Nat.lt_or_ge a N with e | e
        · exact e
        · have := ht.2.1 a e
          omega
      have hlen : s + k.length < 400 := by omega
      have hs1 : ax_wI gi 6 0 4 (n32 (a + 1)) 6 0 8 = n32 (s + k.length) := by simp [wI_at, hs]
      simp (disch := omega) only [b_Reader_readBoth_8, b_Reader_readBoth_15, b_Reader_readBoth_19, b_Reader_readBoth_26, b_Reader_readBoth_29, b_Reader_readBoth_36, hlt, c_accw_y d hG ht ha haN (w := 12) (by decide) h1, c_emit d hG hs1 (by omega), Nat.min_eq_left (Nat.le_of_lt hlen), n32_add, n32_mul, n32_lt, n32_le, n32_eq, n32_clamp, n32_inT, n32_div, n32_rem, n32_m1, n32_m1', n32_m1lt, n32_ltm1, n32_10, n32_01, Nat.not_lt_zero, Nat.lt_irrefl, Nat.mul_zero, Nat.zero_mul, Nat.zero_add, Nat.add_zero, Nat.reduceEqDiff, Nat.one_ne_zero, Nat.zero_ne_one, ax_psh_none, ax_psh_some, true_and, and_true, and_false, false_and, not_true_eq_false, not_false_eq_true, true_imp_iff, false_imp_iff, imp_self, or_true, true_or, or_false, false_or, and_self, ite_true, ite_false, if_true, if_false]
      generalize he : emitG (ax_wI gi 6 0 4 (n32 (a + 1))) (s + k.length) (n32 11) (n32 0) = gi1
      have fr1 : Fr rdMod gi gi1 := by
        rw [← he]
        exact Fr_emit (Fr_wI (Fr_refl _ _) rfl)
      have e4 : gi1 6 0 4 = n32 (a + 1) := by
        rw [← he, emitG_6]
        simp [wI_at]
      have e5 : gi1 6 0 5 = n32 p := by
        rw [← he, emitG_6]
        simp [wI_at, hp]
      have e6 : gi1 6 0 6 = gi 6 0 6 := by
        rw [← he, emitG_6]
        simp [wI_at]
      have e8 : gi1 6 0 8 = n32 (s + k.length + 1) := by
        rw [← he, emitG_6, if_pos rfl]
      apply hit (d + 1) gi1 g _ (a + 1) p (s + k.length + 1) hd hG (TokC_fr ht fr1) e4 e5 e8 haN1 (by omega) hp50
      · intro f gi' hk hfr h6 hfN ⟨s', hs1, hs2⟩
        have hfr' := Fr_trans fr1 hfr
        simp (disch := omega) only [ax_psh_none, ax_psh_some, true_and, and_true, and_false, false_and, not_true_eq_false, not_false_eq_true, true_imp_iff, false_imp_iff, imp_self, or_true, true_or, or_false, false_or, and_self, ite_true, ite_false, if_true, if_false, b_Reader_readBoth_43, G_0_0 hG, G_0_1 hG, G_0_2 hG, G_0_3 hG, G_0_7 hG, G_0_10 hG, G_0_12 hG, G_0_13 hG, G_0_14 hG, G_0_15 hG, G_0_16 hG, G_0_17 hG, G_1_0 hG, G_1_2 hG, G_1_5 hG, G_2_4 hG, G_2_5 hG, G_3_5 hG, G_3_6 hG, G_3_7 hG, G_3_8 hG, G_3_9 hG, G_5_0 hG, G_5_1 hG, G_6_0 hG, G_6_1 hG, G_6_2 hG, G_6_9 hG, G_6_10 hG, G_6_11 hG, G_6_12 hG, G_6_13 hG, G_7_0 hG, G_7_5 hG, G_8_8 hG, G_8_9 hG, G_9_8 hG, G_9_9 hG, G_10_7 hG, G_10_8 hG, G_10_9 hG, G_10_10 hG, G_10_11 hG, G_11_0 hG, G_12_2 hG, G_12_3 hG, G_12_4 hG, G_12_5 hG, G_12_7 hG, G_12_8 hG, G_12_9 hG, G_12_12 hG, G_12_13 hG, G_12_14 hG, G_12_22 hG, G_12_23 hG, G_12_29 hG, G_12_30 hG, G_12_31 hG, G_12_37 hG, G_12_38 hG, G_12_39 hG, G_12_40 hG, G_12_41 hG, G_12_43 hG, G_12_46 hG, G_12_47 hG, G_12_48 hG, G_25 hG, G_26 hG, G_47 hG, G_58 hG, n32_add, n32_mul, n32_lt, n32_le, n32_eq, n32_clamp, n32_inT, n32_div, n32_rem, n32_m1, n32_m1', n32_m1lt, n32_ltm1, n32_10, n32_01, Nat.not_lt_zero, Nat.lt_irrefl, Nat.mul_zero, Nat.zero_mul, Nat.zero_add, Nat.add_zero, Nat.reduceEqDiff, Nat.one_ne_zero, Nat.zero_ne_one, hs2, hsucc]
        have z : Runs (d + 1) (m_Reader_readBoth, 61, [some (.inr (.inr (some (6, 0)))), some (.inl (n32 (8 - r))), some (.inl (n32 0)), some (.inl (n32 (400 - n))), some (.inl (n32 (s + k.length)))], []) (ax_wI gi' 38 0 (s + k.length) (n32 s'), g) Q := by
          simp only [b_Reader_readBoth_61, ax_psh_none, ax_psh_some, true_and, and_true, and_false, false_and, not_true_eq_false, not_false_eq_true, true_imp_iff, false_imp_iff, imp_self, or_true, true_or, or_false, false_or, and_self, ite_true, ite_false, if_true, if_false]
          refine hf f _ (pTLoop_f h1 hk) (Fr_wI hfr' rfl) ?_ hfN ⟨s', hs1, by simp [wI_at, hs2]⟩
          simp only [wI_at, ax_psh_none, ax_psh_some, true_and, and_true, and_false, false_and, not_true_eq_false, not_false_eq_true, true_imp_iff, false_imp_iff, imp_self, or_true, true_or, or_false, false_or, and_self, ite_true, ite_false, if_true, if_false, reduceIte, Nat.reduceEqDiff, Nat.reduceLT, Nat.reduceAdd, Nat.reduceMul, Nat.reduceSub, Nat.reduceDiv, Nat.reduceMod, Nat.reduceLeDiff]
          exact h6.trans (fr1 33 0 f rfl)
        rw [b_Reader_readBoth_8, b_Reader_readBoth_15]
        exact ⟨fun _ => ⟨fun _ => z, fun q => absurd rfl q⟩, fun _ => z⟩
      · intro a' p' k' m' gi' hk hfr ha' hp' hs' hl1 hl2 haN' hp50' h66 hc' hlow
        have hfr' := Fr_trans fr1 hfr
        simp (disch := omega) only [ax_psh_none, ax_psh_some, true_and, and_true, and_false, false_and, not_true_eq_false, not_false_eq_true, true_imp_iff, false_imp_iff, imp_self, or_true, true_or, or_false, false_or, and_self, ite_true, ite_false, if_true, if_false, b_Reader_readBoth_43, G_0_0 hG, G_0_1 hG, G_0_2 hG, G_0_3 hG, G_0_7 hG, G_0_10 hG, G_0_12 hG, G_0_13 hG, G_0_14 hG, G_0_15 hG, G_0_16 hG, G_0_17 hG, G_1_0 hG, G_1_2 hG, G_1_5 hG, G_2_4 hG, G_2_5 hG, G_3_5 hG, G_3_6 hG, G_3_7 hG, G_3_8 hG, G_3_9 hG, G_5_0 hG, G_5_1 hG, G_6_0 hG, G_6_1 hG, G_6_2 hG, G_6_9 hG, G_6_10 hG, G_6_11 hG, G_6_12 hG, G_6_13 hG, G_7_0 hG, G_7_5 hG, G_8_8 hG, G_8_9 hG, G_9_8 hG, G_9_9 hG, G_10_7 hG, G_10_8 hG, G_10_9 hG, G_10_10 hG, G_10_11 hG, G_11_0 hG, G_12_2 hG, G_12_3 hG, G_12_4 hG, G_12_5 hG, G_12_7 hG, G_12_8 hG, G_12_9 hG, G_12_12 hG, G_12_13 hG, G_12_14 hG, G_12_22 hG, G_12_23 hG, G_12_29 hG, G_12_30 hG, G_12_31 hG, G_12_37 hG, G_12_38 hG, G_12_39 hG, G_12_40 hG, G_12_41 hG, G_12_43 hG, G_12_46 hG, G_12_47 hG, G_12_48 hG, G_25 hG, G_26 hG, G_47 hG, G_58 hG, n32_add, n32_mul, n32_lt, n32_le, n32_eq, n32_clamp, n32_inT, n32_div, n32_rem, n32_m1, n32_m1', n32_m1lt, n32_ltm1, n32_10, n32_01, Nat.not_lt_zero, Nat.lt_irrefl, Nat.mul_zero, Nat.zero_mul, Nat.zero_add, Nat.add_zero, Nat.reduceEqDiff, Nat.one_ne_zero, Nat.zero_ne_one, hs', hsucc]
        have hc1 : CodeAt (ax_wI gi 6 0 4 (n32 (a + 1)) 37 0) (ax_wI gi 6 0 4 (n32 (a + 1)) 38 0) s k := CodeAt_congr hc (fun j _ _ => by simp [wI_at])
        have hcc := Code_leap (t := s + k.length + 1 + k'.length) hc1 he.symm hc' hlow
        apply ih (by omega) (d + 1) _ g Q a' p' s (k ++ ((11, s + k.length + 1 + k'.length) :: k')) (fun e => dec2 false (m e) (m' e)) _ hd hd1 hG (TokC_fr ht (Fr_wI hfr' rfl)) (by simp [wI_at, ha']) (by simp [wI_at, hp']) (by simp only [wI_at, ax_psh_none, ax_psh_some, true_and, and_true, and_false, false_and, not_true_eq_false, not_false_eq_true, true_imp_iff, false_imp_iff, imp_self, or_true, true_or, or_false, false_or, and_self, ite_true, ite_false, if_true, if_false, reduceIte, Nat.reduceEqDiff, Nat.reduceLT, Nat.reduceAdd, Nat.reduceMul, Nat.reduceSub, Nat.reduceDiv, Nat.reduceMod, Nat.reduceLeDiff, hs', List.length_append, List.length_cons]; congr 1; omega) haN' (by simp only [List.length_append, List.length_cons]; omega) hp50' hcc
        · intro f gi'' q1 q2 q3 q4 q5
          refine hf f gi'' ((pTLoop_y h1 hk).trans q1) (Fr_trans (Fr_wI hfr' rfl) q2) (q3.trans ?_) q4 q5
          exact Fr_wI (a := 0) (v := n32 (s + k.length + 1 + k'.length)) (j := s + k.length) (s := 38) hfr' rfl 33 0 f rfl
        · intro a'' p'' k'' m'' gi'' q1 q2 q3 q4 q5 q6 q7 q8 q9 q9b q10 q11
          simp only [List.length_append, List.length_cons] at q6
          refine hok a'' p'' k'' m'' gi'' ((pTLoop_y h1 hk).trans q1) (Fr_trans (Fr_wI hfr' rfl) q2) q3 q4 q5 (by omega) (by omega) q8 q9 ?_ q10 (fun j hj => ?_)
          · rw [q9b]
            simp only [wI_at, ax_psh_none, ax_psh_some, true_and, and_true, and_false, false_and, not_true_eq_false, not_false_eq_true, true_imp_iff, false_imp_iff, imp_self, or_true, true_or, or_false, false_or, and_self, ite_true, ite_false, if_true, if_false, reduceIte, Nat.reduceEqDiff, Nat.reduceLT, Nat.reduceAdd, Nat.reduceMul, Nat.reduceSub, Nat.reduceDiv, Nat.reduceMod, Nat.reduceLeDiff]
            exact h66.trans e6
          · have w1 := q11 j hj
            have w3 := hlow j (by omega)
            have w4 := emitG_lt (ax_wI gi 6 0 4 (n32 (a + 1))) (s := s + k.length) (n32 11) (n32 0) (j := j) (by omega)
            rw [he] at w4
            have e38 : ax_wI gi' 38 0 (s + k.length) (n32 (s + k.length + 1 + k'.length)) 38 0 j = gi' 38 0 j := by
              rw [wI_at, if_neg (by omega)]
            have e37 : ax_wI gi' 38 0 (s + k.length) (n32 (s + k.length + 1 + k'.length)) 37 0 j = gi' 37 0 j := by
              rw [wI_at, if_neg (by omega)]
            rw [e37, e38] at w1
            refine ⟨w1.1.trans (w3.1.trans (w4.1.trans ?_)), w1.2.trans (w3.2.trans (w4.2.trans ?_))⟩ <;> simp [wI_at]
    · simp (disch := omega) only [b_Reader_readBoth_8, b_Reader_readBoth_15, b_Reader_readBoth_19, b_Reader_readBoth_26, b_Reader_readBoth_61, hlt, c_accw_n d hG ht ha haN (w := 12) (by decide) h1, n32_add, n32_mul, n32_lt, n32_le, n32_eq, n32_clamp, n32_inT, n32_div, n32_rem, n32_m1, n32_m1', n32_m1lt, n32_ltm1, n32_10, n32_01, Nat.not_lt_zero, Nat.lt_irrefl, Nat.mul_zero, Nat.zero_mul, Nat.zero_add, Nat.add_zero, Nat.reduceEqDiff, Nat.one_ne_zero, Nat.zero_ne_one, ax_psh_none, ax_psh_some, true_and, and_true, and_false, false_and, not_true_eq_false, not_false_eq_true, true_imp_iff, false_imp_iff, imp_self, or_true, true_or, or_false, false_or, and_self, ite_true, ite_false, if_true, if_false]
      exact hok a p k m gi (pTLoop_e h1) (Fr_refl _ _) ha hp hs (by omega) (by omega) haN hp50 rfl hc (fun _ _ => ⟨rfl, rfl⟩)
theorem rd_readBoth {c v : Nat → Nat} {N r h : Nat} {it : PI Bool} (hh : 1 ≤ h) (hit : RdC c v N it m_Reader_readPlain h r) : RdC c v N (pTSeq c 5 11 false it) m_Reader_readBoth (h + 1) r := by
  intro D gi g Q a p s hD hG ht ha hp hs haN hsa hp50 hf hok
  obtain ⟨d, rfl⟩ : ∃ d2, D = d2 + 1 := ⟨D - 1, by omega⟩
  rw [e_Reader_readBoth, b_Reader_readBoth_0]
  apply hit d gi g _ a p s (by omega) hG ht ha hp hs haN hsa hp50
  · intro f gi' hk hfr h6 hfN hs'
    have z : Runs d (m_Reader_readBoth, 61, [some (.inr (.inr (some (6, 0)))), some (.inl (n32 (8 - r))), some (.inl (n32 0)), some (.inl (n32 0)), none], []) (gi', g) Q := by
      simp only [b_Reader_readBoth_61, ax_psh_none, ax_psh_some, true_and, and_true, and_false, false_and, not_true_eq_false, not_false_eq_true, true_imp_iff, false_imp_iff, imp_self, or_true, true_or, or_false, false_or, and_self, ite_true, ite_false, if_true, if_false]
      exact hf f gi' (by simp only [pTSeq, hk]) hfr h6 hfN hs'
    simp only [ax_psh_none, ax_psh_some, true_and, and_true, and_false, false_and, not_true_eq_false, not_false_eq_true, true_imp_iff, false_imp_iff, imp_self, or_true, true_or, or_false, false_or, and_self, ite_true, ite_false, if_true, if_false, b_Reader_readBoth_5]
    rw [b_Reader_readBoth_8, b_Reader_readBoth_15]
    exact ⟨fun _ => ⟨fun _ => z, fun q => absurd rfl q⟩, fun _ => z⟩
  · intro a' p' k m gi' hk hfr ha' hp' hs' hl1 hl2 haN' hp50' h66 hc' hlow
    simp only [ax_psh_none, ax_psh_some, true_and, and_true, and_false, false_and, not_true_eq_false, not_false_eq_true, true_imp_iff, false_imp_iff, imp_self, or_true, true_or, or_false, false_or, and_self, ite_true, ite_false, if_true, if_false, b_Reader_readBoth_5]
    apply rd_readBoth_loop hit 400 (by omega) d gi' g Q a' p' s k m none (by omega) (by omega) hG (TokC_fr ht hfr) ha' hp' hs' haN' (by omega) hp50' hc'
    · intro f gi'' q1 q2 q3 q4 q5
      exact hf f gi'' (by simp only [pTSeq, hk]; exact q1) (Fr_trans hfr q2) (q3.trans (hfr 33 0 f rfl)) q4 q5
    · intro a'' p'' k'' m'' gi'' q1 q2 q3 q4 q5 q6 q7 q8 q9 q9b q10 q11
      exact hok a'' p'' k'' m'' gi'' (by simp only [pTSeq, hk]; exact q1) (Fr_trans hfr q2) q3 q4 q5 (by omega) (by omega) q8 q9 (q9b.trans h66) q10 (fun j hj => ⟨(q11 j hj).1.trans (hlow j hj).1, (q11 j hj).2.trans (hlow j hj).2⟩)
