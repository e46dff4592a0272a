/-! the class's reader: comparisons, what is not so -/
theorem rd_readComparison {c v : Nat → Nat} {N r h : Nat} {it : PI Int} (hh : 1 ≤ h) (hit : RdC c v N it m_Reader_readSum h r) : RdC c v N (pCmp c it) m_Reader_readComparison (h + 1) r := by
  intro D gi g Q a p s hD hG ht ha hp hs haN hsa hp50 hf hok
  obtain ⟨d, rfl⟩ : ∃ d2, D = d2 + 2 := ⟨D - 2, by omega⟩
  have hN : N ≤ 400 := ht.1
  rw [e_Reader_readComparison, b_Reader_readComparison_0]
  apply hit (d + 1) gi g _ a p s (by omega) hG ht ha hp hs haN hsa hp50
  · intro f gi' hk hfr h6 hfN hs'
    simp only [b_Reader_readComparison_5, b_Reader_readComparison_8, ax_psh_none, ax_psh_some, true_and, and_true, and_false, false_and, not_true_eq_false, not_false_eq_true, true_imp_iff, false_imp_iff, imp_self, or_true, true_or, or_false, false_or, and_self, ite_true, ite_false, if_true, if_false]
    exact hf f gi' (by simp only [pCmp, hk]) hfr h6 hfN hs'
  · intro a1 p1 k1 m1 gi1 hk1 hfr1 ha1 hp1 hs1 hl1 hl2 haN1 hp501 h66 hc1 hlow1
    have ht1 := TokC_fr ht hfr1
    have go : ∀ K : Nat, a1 + 1 ≤ N →
        (∀ f, it (a1 + 1) p1 (s + k1.length) = .inl f → pCmp c it a p s = .inl f) →
        (∀ a2 p2 k2 m2, it (a1 + 1) p1 (s + k1.length) = .inr (a2, p2, k2, m2) → pCmp c it a p s = .inr (a2, p2, k1 ++ (k2 ++ [(K, 0)]), fun e => op2 (fun x y => some (cmI K x y)) (m1 e) (m2 e))) →
        Runs (d + 1) (m_Reader_readComparison, 56, [some (.inr (.inr (some (6, 0)))), some (.inl (n32 (8 - r))), some (.inl (n32 K)), none], []) (ax_wI gi1 6 0 4 (n32 (a1 + 1)), g) Q := by
      intro K haN2 e1 e2
      have fr2 : Fr rdMod gi1 (ax_wI gi1 6 0 4 (n32 (a1 + 1))) := Fr_wI (Fr_refl _ _) rfl
      rw [b_Reader_readComparison_56]
      apply hit (d + 1) _ g _ (a1 + 1) p1 (s + k1.length) (by omega) hG (TokC_fr ht1 fr2) (by simp [wI_at]) (by simp [wI_at, hp1]) (by simp [wI_at, hs1]) haN2 (by omega) hp501
      · intro f gi' hk hfr h6 hfN ⟨s', hs1', hs2⟩
        have hfr' := Fr_trans hfr1 (Fr_trans fr2 hfr)
        simp only [b_Reader_readComparison_61, c_emit d hG hs2 hs1', b_Reader_readComparison_68, ax_psh_none, ax_psh_some, true_and, and_true, and_false, false_and, not_true_eq_false, not_false_eq_true, true_imp_iff, false_imp_iff, imp_self, or_true, true_or, or_false, false_or, and_self, ite_true, ite_false, if_true, if_false]
        refine hf f _ (e1 f hk) (Fr_emit hfr') ?_ hfN ⟨min s' 400 + 1, by omega, by rw [emitG_6, if_pos rfl]⟩
        rw [emitG_6, if_neg (by decide), h6, fr2 33 0 f rfl]
        exact hfr1 33 0 f rfl
      · intro a' p' k' m' gi' hk hfr ha' hp' hs' hl1' hl2' haN' hp50' h66' hc' hlow
        have hfr' := Fr_trans hfr1 (Fr_trans fr2 hfr)
        have hlen : s + k1.length + k'.length < 400 := by omega
        have hlow' : ∀ j, j < s + k1.length → gi' 37 0 j = gi1 37 0 j ∧ gi' 38 0 j = gi1 38 0 j := hlow
        simp only [b_Reader_readComparison_61, c_emit d hG hs' (by omega), b_Reader_readComparison_68, Nat.min_eq_left (Nat.le_of_lt hlen), ax_psh_none, ax_psh_some, true_and, and_true, and_false, false_and, not_true_eq_false, not_false_eq_true, true_imp_iff, false_imp_iff, imp_self, or_true, true_or, or_false, false_or, and_self, ite_true, ite_false, if_true, if_false]
        refine hok a' p' (k1 ++ (k' ++ [(K, 0)])) _ _ (e2 _ _ _ _ hk) (Fr_emit hfr') (by rw [emitG_6, if_neg (by decide), ha']) (by rw [emitG_6, if_neg (by decide), hp']) (by rw [emitG_6, if_pos rfl]; simp only [List.length_append, List.length_cons, List.length_nil]; congr 1; omega) (by simp only [List.length_append, List.length_cons, List.length_nil]; omega) (by omega) haN' hp50' ?_ (Code_emit hc1 hc' hlow') (fun j hj => ?_)
        · rw [emitG_6, if_neg (by decide), h66']
          simp only [wI_at, ax_psh_none, ax_psh_some, true_and, and_true, and_false, false_and, not_true_eq_false, not_false_eq_true, true_imp_iff, false_imp_iff, imp_self, or_true, true_or, or_false, false_or, and_self, ite_true, ite_false, if_true, if_false, reduceIte, Nat.reduceEqDiff, Nat.reduceLT, Nat.reduceAdd, Nat.reduceMul, Nat.reduceSub, Nat.reduceDiv, Nat.reduceMod, Nat.reduceLeDiff]
          exact h66
        · have w2 := emitG_lt gi' (s := s + k1.length + k'.length) (n32 K) (n32 0) (j := j) (by omega)
          have w3 := hlow' j (by omega)
          have w4 := hlow1 j hj
          exact ⟨w2.1.trans (w3.1.trans w4.1), w2.2.trans (w3.2.trans w4.2)⟩
    have lt_of : ∀ x, c a1 = x → x ≠ 0 → a1 + 1 ≤ N := fun x hx h0 => by
      rcases Nat.lt_or_ge a1 N with e | e
      · exact e
      · exact absurd ((ht.2.1 a1 e).symm.trans hx).symm h0
    by_cases h1 : c a1 = 160
    · simp only [b_Reader_readComparison_5, b_Reader_readComparison_10, c_acc_y d hG ht1 ha1 haN1 (ch := 60) h1, b_Reader_readComparison_20, b_Reader_readComparison_23, n32_10, ax_psh_none, ax_psh_some, true_and, and_true, and_false, false_and, not_true_eq_false, not_false_eq_true, true_imp_iff, false_imp_iff, imp_self, or_true, true_or, or_false, false_or, and_self, ite_true, ite_false, if_true, if_false]
      exact go 6 (lt_of _ h1 (by decide)) (fun f hk => by simp only [pCmp, hk1, hk, h1, true_or, if_true]) (fun a2 p2 k2 m2 hk => by simp only [pCmp, hk1, hk, h1, true_or, if_true])
    · by_cases h2 : c a1 = 162
      · simp only [b_Reader_readComparison_5, b_Reader_readComparison_10, c_acc_n d hG ht1 ha1 haN1 (ch := 60) (by decide) h1, b_Reader_readComparison_20, b_Reader_readComparison_29, c_acc_y d hG ht1 ha1 haN1 (ch := 62) h2, b_Reader_readComparison_36, b_Reader_readComparison_39, n32_10, ax_psh_none, ax_psh_some, true_and, and_true, and_false, false_and, not_true_eq_false, not_false_eq_true, true_imp_iff, false_imp_iff, imp_self, or_true, true_or, or_false, false_or, and_self, ite_true, ite_false, if_true, if_false]
        exact go 7 (lt_of _ h2 (by decide)) (fun f hk => by simp [pCmp, hk1, hk, h2]) (fun a2 p2 k2 m2 hk => by simp [pCmp, hk1, hk, h2])
      · by_cases h3 : c a1 = 161
        · simp only [b_Reader_readComparison_5, b_Reader_readComparison_10, c_acc_n d hG ht1 ha1 haN1 (ch := 60) (by decide) h1, b_Reader_readComparison_20, b_Reader_readComparison_29, c_acc_n d hG ht1 ha1 haN1 (ch := 62) (by decide) h2, b_Reader_readComparison_36, b_Reader_readComparison_45, c_exp_y d hG ht1 ha1 haN1 (ch := 61) h3, b_Reader_readComparison_51, n32_10, ax_psh_none, ax_psh_some, true_and, and_true, and_false, false_and, not_true_eq_false, not_false_eq_true, true_imp_iff, false_imp_iff, imp_self, or_true, true_or, or_false, false_or, and_self, ite_true, ite_false, if_true, if_false]
          exact go 8 (lt_of _ h3 (by decide)) (fun f hk => by simp [pCmp, hk1, hk, h3]) (fun a2 p2 k2 m2 hk => by simp [pCmp, hk1, hk, h3])
        · simp only [b_Reader_readComparison_5, b_Reader_readComparison_10, c_acc_n d hG ht1 ha1 haN1 (ch := 60) (by decide) h1, b_Reader_readComparison_20, b_Reader_readComparison_29, c_acc_n d hG ht1 ha1 haN1 (ch := 62) (by decide) h2, b_Reader_readComparison_36, b_Reader_readComparison_45, c_exp_n d hG ht1 ha1 haN1 (ch := 61) (by decide) h3, b_Reader_readComparison_51, b_Reader_readComparison_54, n32_10, ax_psh_none, ax_psh_some, true_and, and_true, and_false, false_and, not_true_eq_false, not_false_eq_true, true_imp_iff, false_imp_iff, imp_self, or_true, true_or, or_false, false_or, and_self, ite_true, ite_false, if_true, if_false]
          refine hf a1 _ (by simp [pCmp, hk1, h1, h2, h3]) (Fr_wI hfr1 rfl) ?_ haN1 ⟨s + k1.length, by omega, by simp [wI_at, hs1]⟩
          simp only [wI_at, ax_psh_none, ax_psh_some, true_and, and_true, and_false, false_and, not_true_eq_false, not_false_eq_true, true_imp_iff, false_imp_iff, imp_self, or_true, true_or, or_false, false_or, and_self, ite_true, ite_false, if_true, if_false, reduceIte, Nat.reduceEqDiff, Nat.reduceLT, Nat.reduceAdd, Nat.reduceMul, Nat.reduceSub, Nat.reduceDiv, Nat.reduceMod, Nat.reduceLeDiff]
          exact hfr1 33 0 a1 rfl
theorem pNots_le {c : Nat → Nat} : ∀ {n a : Nat} {t : Bool}, a ≤ (pNots c n a t).1
  | 0, a, t => Nat.le_refl _
  | n + 1, a, t => by
    unfold pNots
    split
    · exact Nat.le_trans (Nat.le_succ a) pNots_le
    · exact Nat.le_refl _
theorem pNots_N {c : Nat → Nat} {N : Nat} (hc : ∀ a, N ≤ a → c a = 0) : ∀ {n a : Nat} {t : Bool}, a ≤ N → (pNots c n a t).1 ≤ N
  | 0, a, t, h => h
  | n + 1, a, t, h => by
    unfold pNots
    split
    · rename_i h1
      refine pNots_N hc ?_
      rcases Nat.lt_or_ge a N with e | e
      · exact e
      · have := hc a e
        omega
    · exact h
theorem pNots_lt {c : Nat → Nat} {n a : Nat} {t : Bool} (h : (pNots c n a t).2 ≠ t) : a < (pNots c n a t).1 := by
  cases n with
  | zero => exact absurd rfl h
  | succ n =>
    unfold pNots at h ⊢
    split
    · exact Nat.lt_of_lt_of_le (Nat.lt_succ_self a) pNots_le
    · rename_i h1
      rw [if_neg h1] at h
      exact absurd rfl h
def b32 (t : Bool) : Int32 := if t = true then n32 1 else n32 0
theorem rd_nots {c v : Nat → Nat} {N : Nat} {d : Nat} {g : AG} {Q : Option AV → AH → Prop} {x1 : Int32} (hG : GOK g) : ∀ (n : Nat), n ≤ 400 → ∀ (gi : GI) (a : Nat) (t : Bool), TokC gi c v N → gi 6 0 4 = n32 a → a ≤ N →
    (∀ x3 : Int32, Runs (d + 1) (m_Reader_readPlain, 37, [some (.inr (.inr (some (6, 0)))), some (.inl x1), some (.inl (b32 (pNots c n a t).2)), some (.inl x3)], []) (ax_wI gi 6 0 4 (n32 (pNots c n a t).1), g) Q) →
    Runs (d + 1) (m_Reader_readPlain, 4, [some (.inr (.inr (some (6, 0)))), some (.inl x1), some (.inl (b32 t)), some (.inl (n32 (400 - n)))], []) (gi, g) Q := by
  intro n
  induction n with
  | zero =>
    intro _ gi a t ht ha haN hq
    simp (disch := omega) only [b_Reader_readPlain_4, Nat.sub_zero, n32_add, n32_mul, n32_lt, n32_le, n32_eq, n32_clamp, n32_inT, n32_div, n32_rem, n32_m1, n32_m1', n32_m1lt, n32_ltm1, n32_10, n32_01, Nat.not_lt_zero, Nat.lt_irrefl, Nat.mul_zero, Nat.zero_mul, Nat.zero_add, Nat.add_zero, Nat.reduceEqDiff, Nat.one_ne_zero, Nat.zero_ne_one, ax_psh_none, ax_psh_some, true_and, and_true, and_false, false_and, not_true_eq_false, not_false_eq_true, true_imp_iff, false_imp_iff, imp_self, or_true, true_or, or_false, false_or, and_self, ite_true, ite_false, if_true, if_false]
    have := hq (n32 400)
    rw [show pNots c 0 a t = (a, t) from rfl, wI_same ha] at this
    exact this
  | succ n ih =>
    intro hn gi a t ht ha haN hq
    have hlt : 400 - (n + 1) < 400 := by omega
    have hsucc : 400 - (n + 1) + 1 = 400 - n := by omega
    have hN : N ≤ 400 := ht.1
    by_cases h1 : c a = 6
    · have haN1 : a + 1 ≤ N := by
        rcases Nat.lt_or_ge a N with e | e
        · exact e
        · have := ht.2.1 a e
          omega
      have e : pNots c (n + 1) a t = pNots c n (a + 1) (!t) := by
        show (if c a = 6 then _ else _) = _
        rw [if_pos h1]
      have fr1 : Fr rdMod gi (ax_wI gi 6 0 4 (n32 (a + 1))) := Fr_wI (Fr_refl _ _) rfl
      have step := ih (by omega) (ax_wI gi 6 0 4 (n32 (a + 1))) (a + 1) (!t) (TokC_fr ht fr1) (by simp [wI_at]) haN1 (fun x3 => by
        have := hq x3
        rw [e] at this
        have w : ∀ x y, ax_wI (ax_wI gi 6 0 4 x) 6 0 4 y = ax_wI gi 6 0 4 y := fun x y => by
          funext s a j
          simp only [wI_at]
          split <;> rfl
        rw [w]
        exact this)
      cases t
      · rw [b_Reader_readPlain_4]
        simp (disch := omega) only [b_Reader_readPlain_11, b_Reader_readPlain_18, b_Reader_readPlain_21, b_Reader_readPlain_25, b_Reader_readPlain_30, hlt, hsucc, c_accw_y d hG ht ha haN (w := 13) (by decide) h1, b32, Bool.false_eq_true, n32_add, n32_mul, n32_lt, n32_le, n32_eq, n32_clamp, n32_inT, n32_div, n32_rem, n32_m1, n32_m1', n32_m1lt, n32_ltm1, n32_10, n32_01, Nat.not_lt_zero, Nat.lt_irrefl, Nat.mul_zero, Nat.zero_mul, Nat.zero_add, Nat.add_zero, Nat.reduceEqDiff, Nat.one_ne_zero, Nat.zero_ne_one, ax_psh_none, ax_psh_some, true_and, and_true, and_false, false_and, not_true_eq_false, not_false_eq_true, true_imp_iff, false_imp_iff, imp_self, or_true, true_or, or_false, false_or, and_self, ite_true, ite_false, if_true, if_false]
        exact step
      · rw [b_Reader_readPlain_4]
        simp (disch := omega) only [b_Reader_readPlain_11, b_Reader_readPlain_18, b_Reader_readPlain_21, b_Reader_readPlain_29, b_Reader_readPlain_30, hlt, hsucc, c_accw_y d hG ht ha haN (w := 13) (by decide) h1, b32, Bool.false_eq_true, n32_add, n32_mul, n32_lt, n32_le, n32_eq, n32_clamp, n32_inT, n32_div, n32_rem, n32_m1, n32_m1', n32_m1lt, n32_ltm1, n32_10, n32_01, Nat.not_lt_zero, Nat.lt_irrefl, Nat.mul_zero, Nat.zero_mul, Nat.zero_add, Nat.add_zero, Nat.reduceEqDiff, Nat.one_ne_zero, Nat.zero_ne_one, ax_psh_none, ax_psh_some, true_and, and_true, and_false, false_and, not_true_eq_false, not_false_eq_true, true_imp_iff, false_imp_iff, imp_self, or_true, true_or, or_false, false_or, and_self, ite_true, ite_false, if_true, if_false]
        exact step
    · have e : pNots c (n + 1) a t = (a, t) := by
        show (if c a = 6 then _ else _) = _
        rw [if_neg h1]
      simp (disch := omega) only [b_Reader_readPlain_4, b_Reader_readPlain_11, b_Reader_readPlain_18, hlt, c_accw_n d hG ht ha haN (w := 13) (by decide) h1, n32_add, n32_mul, n32_lt, n32_le, n32_eq, n32_clamp, n32_inT, n32_div, n32_rem, n32_m1, n32_m1', n32_m1lt, n32_ltm1, n32_10, n32_01, Nat.not_lt_zero, Nat.lt_irrefl, Nat.mul_zero, Nat.zero_mul, Nat.zero_add, Nat.add_zero, Nat.reduceEqDiff, Nat.one_ne_zero, Nat.zero_ne_one, ax_psh_none, ax_psh_some, true_and, and_true, and_false, false_and, not_true_eq_false, not_false_eq_true, true_imp_iff, false_imp_iff, imp_self, or_true, true_or, or_false, false_or, and_self, ite_true, ite_false, if_true, if_false]
      have := hq (n32 (400 - (n + 1)))
      rw [e, wI_same ha] at this
      exact this
theorem pTurn_f {t : Bool} {x : PR Bool} {f : Nat} (h : x = .inl f) : pTurn t x = .inl f := by rw [h]; rfl
theorem pTurn_0 {t : Bool} {x : PR Bool} (h : t = false) : pTurn t x = x := by
  subst h
  match x with
  | .inl f => rfl
  | .inr (a, p, k, m) => rfl
theorem pTurn_1 {t : Bool} {x : PR Bool} {a p : Nat} {k : List (Nat × Nat)} {m : (Nat → Int) → Option Bool} (ht : t = true) (h : x = .inr (a, p, k, m)) : pTurn t x = .inr (a, p, k ++ [(9, 0)], fun e => (m e).map (fun b => !b)) := by
  subst ht
  rw [h]
  rfl
theorem rd_readPlain {c v : Nat → Nat} {N r h : Nat} {cmp inn : PI Bool} (hr : r ≤ 8) (hcmp : RdC c v N cmp m_Reader_readComparison h r) (hi : (r = 0 ∧ ∀ a p s, inn a p s = .inl (a - 1)) ∨ (0 < r ∧ RdC c v N inn m_Reader_readTest h (r - 1))) (hh : 1 ≤ h) : RdC c v N (pNot c cmp inn) m_Reader_readPlain (h + 1) r := by
  intro D gi g Q a p s hD hG ht ha hp hs haN hsa hp50 hf hok
  obtain ⟨d, rfl⟩ : ∃ d2, D = d2 + 2 := ⟨D - 2, by omega⟩
  have hN : N ≤ 400 := ht.1
  rw [e_Reader_readPlain, b_Reader_readPlain_0]
  have hle : a ≤ (pNots c 400 a false).1 := pNots_le
  have hNN : (pNots c 400 a false).1 ≤ N := pNots_N ht.2.1 haN
  have hlt : (pNots c 400 a false).2 = true → a < (pNots c 400 a false).1 := fun q => pNots_lt (by rw [q]; decide)
  have epn : ∀ x, pPar c cmp inn (pNots c 400 a false).1 p s = x → pNot c cmp inn a p s = pTurn (pNots c 400 a false).2 x := fun x hx => by rw [← hx]; rfl
  refine rd_nots hG 400 (by omega) gi a false ht ha haN ?_
  generalize hb : (pNots c 400 a false).1 = b at *
  generalize htt : (pNots c 400 a false).2 = t at *
  intro x3
  have fr1 : Fr rdMod gi (ax_wI gi 6 0 4 (n32 b)) := Fr_wI (Fr_refl _ _) rfl
  have ht1 := TokC_fr ht fr1
  -- what is read, turned
  have fin : ∀ (a' p' : Nat) (k : List (Nat × Nat)) (m : (Nat → Int) → Option Bool) (gi' : GI) (o1 o3 : Option AV), pPar c cmp inn b p s = .inr (a', p', k, m) → Fr rdMod gi gi' → gi' 6 0 4 = n32 a' → gi' 6 0 5 = n32 p' → gi' 6 0 8 = n32 (s + k.length) → b + k.length ≤ a' → b < a' → a' ≤ N → p' ≤ 50 → gi' 6 0 6 = gi 6 0 6 → CodeAt (gi' 37 0) (gi' 38 0) s k → (∀ j, j < s → gi' 37 0 j = gi 37 0 j ∧ gi' 38 0 j = gi 38 0 j) →
      Runs (d + 1) (m_Reader_readPlain, 116, [some (.inr (.inr (some (6, 0)))), o1, some (.inl (b32 t)), o3], []) (gi', g) Q := by
    intro a' p' k m gi' o1 o3 hk hfr ha' hp' hs' hl1 hl2 haN' hp50' h66 hc' hlow
    cases t with
    | false =>
      simp only [b_Reader_readPlain_116, b_Reader_readPlain_128, b32, Bool.false_eq_true, ax_psh_none, ax_psh_some, true_and, and_true, and_false, false_and, not_true_eq_false, not_false_eq_true, true_imp_iff, false_imp_iff, imp_self, or_true, true_or, or_false, false_or, and_self, ite_true, ite_false, if_true, if_false]
      exact hok a' p' k m gi' ((epn _ hk).trans (pTurn_0 rfl)) hfr ha' hp' hs' (by omega) (by omega) haN' hp50' h66 hc' hlow
    | true =>
      have hab := hlt rfl
      have hlen : s + k.length < 400 := by omega
      simp only [b_Reader_readPlain_116, b_Reader_readPlain_120, b_Reader_readPlain_127, b_Reader_readPlain_128, b32, c_emit d hG hs' (by omega), Nat.min_eq_left (Nat.le_of_lt hlen), n32_10, ax_psh_none, ax_psh_some, true_and, and_true, and_false, false_and, not_true_eq_false, not_false_eq_true, true_imp_iff, false_imp_iff, imp_self, or_true, true_or, or_false, false_or, and_self, ite_true, ite_false, if_true, if_false]
      have hcc := Code_emit (gi := gi') (gi' := gi') (s := s) (x := 9) (y := 0) (k := k) (k' := []) hc' trivial (fun _ _ => ⟨rfl, rfl⟩)
      simp only [List.length_nil, Nat.add_zero, List.nil_append] at hcc
      refine hok a' p' (k ++ [(9, 0)]) _ _ ((epn _ hk).trans (pTurn_1 rfl rfl)) (Fr_emit hfr) (by rw [emitG_6, if_neg (by decide), ha']) (by rw [emitG_6, if_neg (by decide), hp']) (by rw [emitG_6, if_pos rfl]; simp only [List.length_append, List.length_cons, List.length_nil]; congr 1) (by simp only [List.length_append, List.length_cons, List.length_nil]; omega) (by omega) haN' hp50' (by rw [emitG_6, if_neg (by decide), h66]) hcc (fun j hj => ?_)
      have w2 := emitG_lt gi' (s := s + k.length) (n32 9) (n32 0) (j := j) (by omega)
      have w3 := hlow j hj
      exact ⟨w2.1.trans w3.1, w2.2.trans w3.2⟩
  have h4 : ax_wI gi 6 0 4 (n32 b) 6 0 4 = n32 b := by simp [wI_at]
  obtain ⟨h0, h1, h2, h3⟩ := ht1.2.2 b hNN
  by_cases hc40 : c b = 140
  · have hbN : b < N := by
      rcases Nat.lt_or_ge b N with e | e
      · exact e
      · have := ht.2.1 b e
        omega
    obtain ⟨k1, k2⟩ := h1 (by omega)
    rw [hc40] at k2
    have k2 : (ax_wI gi 6 0 4 (n32 b)) 32 0 b = n32 40 := k2
    rcases hi with ⟨rfl, hi⟩ | ⟨hr0, hi⟩
    · simp (disch := omega) only [b_Reader_readPlain_37, b_Reader_readPlain_50, b_Reader_readPlain_64, b_Reader_readPlain_70, b_Reader_readPlain_74, G_0_0 hG, G_0_1 hG, G_0_2 hG, G_0_3 hG, G_0_7 hG, G_0_10 hG, G_0_12 hG, G_0_13 hG, G_0_14 hG, G_0_15 hG, G_0_16 hG, G_0_17 hG, G_1_0 hG, G_1_2 hG, G_1_5 hG, G_2_4 hG, G_2_5 hG, G_3_5 hG, G_3_6 hG, G_3_7 hG, G_3_8 hG, G_3_9 hG, G_5_0 hG, G_5_1 hG, G_6_0 hG, G_6_1 hG, G_6_2 hG, G_6_9 hG, G_6_10 hG, G_6_11 hG, G_6_12 hG, G_6_13 hG, G_7_0 hG, G_7_5 hG, G_8_8 hG, G_8_9 hG, G_9_8 hG, G_9_9 hG, G_10_7 hG, G_10_8 hG, G_10_9 hG, G_10_10 hG, G_10_11 hG, G_11_0 hG, G_12_2 hG, G_12_3 hG, G_12_4 hG, G_12_5 hG, G_12_7 hG, G_12_8 hG, G_12_9 hG, G_12_12 hG, G_12_13 hG, G_12_14 hG, G_12_22 hG, G_12_23 hG, G_12_29 hG, G_12_30 hG, G_12_31 hG, G_12_37 hG, G_12_38 hG, G_12_39 hG, G_12_40 hG, G_12_41 hG, G_12_43 hG, G_12_46 hG, G_12_47 hG, G_12_48 hG, G_25 hG, G_26 hG, G_47 hG, G_58 hG, h4, k1, k2, c_rfail d hG h4 (by omega), n32_add, n32_mul, n32_lt, n32_le, n32_eq, n32_clamp, n32_inT, n32_div, n32_rem, n32_m1, n32_m1', n32_m1lt, n32_ltm1, n32_10, n32_01, Nat.not_lt_zero, Nat.lt_irrefl, Nat.mul_zero, Nat.zero_mul, Nat.zero_add, Nat.add_zero, Nat.reduceEqDiff, Nat.one_ne_zero, Nat.zero_ne_one, ax_psh_none, ax_psh_some, true_and, and_true, and_false, false_and, not_true_eq_false, not_false_eq_true, true_imp_iff, false_imp_iff, imp_self, or_true, true_or, or_false, false_or, and_self, ite_true, ite_false, if_true, if_false, reduceIte, Nat.reduceEqDiff, Nat.reduceLT, Nat.reduceAdd, Nat.reduceMul, Nat.reduceSub, Nat.reduceDiv, Nat.reduceMod, Nat.reduceLeDiff]
      refine hf b _ ((epn (.inl b) ?_).trans (pTurn_f rfl)) (Fr_wI fr1 rfl) ?_ hNN ⟨s, by omega, by simp [wI_at, hs]⟩
      · simp only [pPar, hc40, if_true, hi]
        rfl
      · simp [wI_at]
    · have hlt8 : 8 - r < 8 := by omega
      have e1 : 8 - r + 1 = 8 - (r - 1) := by omega
      have ww : ∀ x y, ax_wI (ax_wI gi 6 0 4 x) 6 0 4 y = ax_wI gi 6 0 4 y := fun x y => by
        funext s a j
        simp only [wI_at]
        split <;> rfl
      simp (disch := omega) only [b_Reader_readPlain_37, b_Reader_readPlain_50, b_Reader_readPlain_64, b_Reader_readPlain_75, G_0_0 hG, G_0_1 hG, G_0_2 hG, G_0_3 hG, G_0_7 hG, G_0_10 hG, G_0_12 hG, G_0_13 hG, G_0_14 hG, G_0_15 hG, G_0_16 hG, G_0_17 hG, G_1_0 hG, G_1_2 hG, G_1_5 hG, G_2_4 hG, G_2_5 hG, G_3_5 hG, G_3_6 hG, G_3_7 hG, G_3_8 hG, G_3_9 hG, G_5_0 hG, G_5_1 hG, G_6_0 hG, G_6_1 hG, G_6_2 hG, G_6_9 hG, G_6_10 hG, G_6_11 hG, G_6_12 hG, G_6_13 hG, G_7_0 hG, G_7_5 hG, G_8_8 hG, G_8_9 hG, G_9_8 hG, G_9_9 hG, G_10_7 hG, G_10_8 hG, G_10_9 hG, G_10_10 hG, G_10_11 hG, G_11_0 hG, G_12_2 hG, G_12_3 hG, G_12_4 hG, G_12_5 hG, G_12_7 hG, G_12_8 hG, G_12_9 hG, G_12_12 hG, G_12_13 hG, G_12_14 hG, G_12_22 hG, G_12_23 hG, G_12_29 hG, G_12_30 hG, G_12_31 hG, G_12_37 hG, G_12_38 hG, G_12_39 hG, G_12_40 hG, G_12_41 hG, G_12_43 hG, G_12_46 hG, G_12_47 hG, G_12_48 hG, G_25 hG, G_26 hG, G_47 hG, G_58 hG, h4, k1, k2, hlt8, e1, ww, n32_add, n32_mul, n32_lt, n32_le, n32_eq, n32_clamp, n32_inT, n32_div, n32_rem, n32_m1, n32_m1', n32_m1lt, n32_ltm1, n32_10, n32_01, Nat.not_lt_zero, Nat.lt_irrefl, Nat.mul_zero, Nat.zero_mul, Nat.zero_add, Nat.add_zero, Nat.reduceEqDiff, Nat.one_ne_zero, Nat.zero_ne_one, ax_psh_none, ax_psh_some, true_and, and_true, and_false, false_and, not_true_eq_false, not_false_eq_true, true_imp_iff, false_imp_iff, imp_self, or_true, true_or, or_false, false_or, and_self, ite_true, ite_false, if_true, if_false, reduceIte, Nat.reduceEqDiff, Nat.reduceLT, Nat.reduceAdd, Nat.reduceMul, Nat.reduceSub, Nat.reduceDiv, Nat.reduceMod, Nat.reduceLeDiff]
      have fr2 : Fr rdMod gi (ax_wI gi 6 0 4 (n32 (b + 1))) := Fr_wI (Fr_refl _ _) rfl
      apply hi (d + 1) _ g _ (b + 1) p s (by omega) hG (TokC_fr ht fr2) (by simp [wI_at]) (by simp [wI_at, hp]) (by simp [wI_at, hs]) (by omega) (by omega) hp50
      · intro f gi' hk hfr h6 hfN hs'
        simp only [b_Reader_readPlain_92, b_Reader_readPlain_104, ax_psh_none, ax_psh_some, true_and, and_true, and_false, false_and, not_true_eq_false, not_false_eq_true, true_imp_iff, false_imp_iff, imp_self, or_true, true_or, or_false, false_or, and_self, ite_true, ite_false, if_true, if_false]
        exact hf f gi' ((epn (.inl f) (by simp only [pPar, hc40, if_true, hk])).trans (pTurn_f rfl)) (Fr_trans fr2 hfr) (h6.trans (fr2 33 0 f rfl)) hfN hs'
      · intro a' p' k m gi' hk hfr ha' hp' hs' hl1 hl2 haN' hp50' h66 hc' hlow
        have hfr' := Fr_trans fr2 hfr
        have ht' := TokC_fr ht hfr'
        by_cases hc41 : c a' = 141
        · have haN3 : a' < N := by
            rcases Nat.lt_or_ge a' N with e | e
            · exact e
            · have := ht.2.1 a' e
              omega
          simp only [b_Reader_readPlain_92, b_Reader_readPlain_95, c_exp_y d hG ht' ha' haN' (ch := 41) hc41, b_Reader_readPlain_101, n32_10, ax_psh_none, ax_psh_some, true_and, and_true, and_false, false_and, not_true_eq_false, not_false_eq_true, true_imp_iff, false_imp_iff, imp_self, or_true, true_or, or_false, false_or, and_self, ite_true, ite_false, if_true, if_false]
          refine fin (a' + 1) p' k m _ _ _ (by simp only [pPar, hc40, if_true, hk, hc41]) (Fr_wI hfr' rfl) (by simp [wI_at]) (by simp [wI_at, hp']) (by simp [wI_at, hs']) (by omega) (by omega) (by omega) hp50' ?_ ?_ ?_
          · simp only [wI_at, ax_psh_none, ax_psh_some, true_and, and_true, and_false, false_and, not_true_eq_false, not_false_eq_true, true_imp_iff, false_imp_iff, imp_self, or_true, true_or, or_false, false_or, and_self, ite_true, ite_false, if_true, if_false, reduceIte, Nat.reduceEqDiff, Nat.reduceLT, Nat.reduceAdd, Nat.reduceMul, Nat.reduceSub, Nat.reduceDiv, Nat.reduceMod, Nat.reduceLeDiff]
            rw [h66]
            simp [wI_at]
          · exact CodeAt_congr hc' (fun j _ _ => by simp [wI_at])
          · intro j hj
            have := hlow j hj
            simpa [wI_at] using this
        · simp only [b_Reader_readPlain_92, b_Reader_readPlain_95, c_exp_n d hG ht' ha' haN' (ch := 41) (by decide) hc41, b_Reader_readPlain_101, b_Reader_readPlain_104, n32_10, ax_psh_none, ax_psh_some, true_and, and_true, and_false, false_and, not_true_eq_false, not_false_eq_true, true_imp_iff, false_imp_iff, imp_self, or_true, true_or, or_false, false_or, and_self, ite_true, ite_false, if_true, if_false]
          refine hf a' _ ((epn (.inl a') (by simp only [pPar, hc40, if_true, hk, hc41, if_false])).trans (pTurn_f rfl)) (Fr_wI hfr' rfl) ?_ haN' ⟨s + k.length, by omega, by simp [wI_at, hs']⟩
          simp only [wI_at, ax_psh_none, ax_psh_some, true_and, and_true, and_false, false_and, not_true_eq_false, not_false_eq_true, true_imp_iff, false_imp_iff, imp_self, or_true, true_or, or_false, false_or, and_self, ite_true, ite_false, if_true, if_false, reduceIte, Nat.reduceEqDiff, Nat.reduceLT, Nat.reduceAdd, Nat.reduceMul, Nat.reduceSub, Nat.reduceDiv, Nat.reduceMod, Nat.reduceLeDiff]
          exact hfr' 33 0 a' rfl
  · have z : Runs (d + 1) (m_Reader_readPlain, 106, [some (.inr (.inr (some (6, 0)))), some (.inl (n32 (8 - r))), some (.inl (b32 t)), some (.inl x3)], []) (ax_wI gi 6 0 4 (n32 b), g) Q := by
      rw [b_Reader_readPlain_106]
      apply hcmp (d + 1) _ g _ b p s (by omega) hG ht1 h4 (by simp [wI_at, hp]) (by simp [wI_at, hs]) hNN (by omega) hp50
      · intro f gi' hk hfr h6 hfN hs'
        simp only [b_Reader_readPlain_111, b_Reader_readPlain_114, ax_psh_none, ax_psh_some, true_and, and_true, and_false, false_and, not_true_eq_false, not_false_eq_true, true_imp_iff, false_imp_iff, imp_self, or_true, true_or, or_false, false_or, and_self, ite_true, ite_false, if_true, if_false]
        exact hf f gi' ((epn (.inl f) (by simp only [pPar, hc40, if_false, hk])).trans (pTurn_f rfl)) (Fr_trans fr1 hfr) (h6.trans (fr1 33 0 f rfl)) hfN hs'
      · intro a' p' k m gi' hk hfr ha' hp' hs' hl1 hl2 haN' hp50' h66 hc' hlow
        simp only [b_Reader_readPlain_111, n32_10, ax_psh_none, ax_psh_some, true_and, and_true, and_false, false_and, not_true_eq_false, not_false_eq_true, true_imp_iff, false_imp_iff, imp_self, or_true, true_or, or_false, false_or, and_self, ite_true, ite_false, if_true, if_false]
        refine fin a' p' k m gi' _ _ (by simp only [pPar, hc40, if_false, hk]) (Fr_trans fr1 hfr) ha' hp' hs' hl1 hl2 haN' hp50' (h66.trans (by simp [wI_at])) hc' (fun j hj => ?_)
        have := hlow j hj
        simpa [wI_at] using this
    rw [b_Reader_readPlain_37]
    refine ⟨G_6_0 hG 0, by rw [h4]; exact n32_in (by omega) (by omega), fun q => ?_, fun _ => z⟩
    rw [b_Reader_readPlain_50]
    refine ⟨G_6_1 hG 0, by rw [h4]; exact n32_in (by omega) (by omega), fun q2 => ?_, fun _ => z⟩
    exfalso
    rw [h4, n32_clamp (by omega)] at q q2
    rcases h0 with h0 | h0 | h0
    · by_cases e : b = N
      · rw [((h3 h0).1 e).1, n32_eq (by omega) (by omega)] at q
        omega
      · rw [((h3 h0).2 (by omega)).1, n32_eq (by omega) (by omega)] at q
        omega
    · rw [(h2 h0).1, n32_eq (by omega) (by omega)] at q
      omega
    · rw [(h1 h0.1).2, n32_eq (by omega) (by omega)] at q2
      omega
