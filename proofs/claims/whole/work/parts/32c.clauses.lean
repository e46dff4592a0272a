/-! both readers: all clauses -/
theorem RdC_mono {α : Type} {c v : Nat → Nat} {N m h h' r : Nat} {it : PI α} (hh : h ≤ h') (H : RdC c v N it m h r) : RdC c v N it m h' r := fun D gi g Q a p s hD => H D gi g Q a p s (Nat.le_trans hh hD)
theorem RdM_mono {α : Type} {c v : Nat → Nat} {N m h h' r : Nat} {it : PI α} (hh : h ≤ h') (H : RdM c v N it m h r) : RdM c v N it m h' r := fun D gi g Q a p s hD => H D gi g Q a p s (Nat.le_trans hh hD)
theorem rd_part (c v : Nat → Nat) (N : Nat) : ∀ r, r ≤ 8 → RdC c v N (pPart c v r) m_Reader_readPart (3 * r + 2) r
  | 0, _ => rd_readPart (h := 1) (by omega) (Or.inl ⟨rfl, fun _ _ _ => rfl⟩) (by omega)
  | r + 1, h => by
    have ih := rd_part c v N r (by omega)
    have h2 : RdC c v N (pSumOf c (pPart c v r)) m_Reader_readSum (3 * r + 2 + 1 + 1) (r + 1 - 1) := rd_readSum (by omega) (rd_readTerm (by omega) ih)
    exact rd_readPart (inn := pSumOf c (pPart c v r)) h (Or.inr ⟨by omega, h2⟩) (by omega)
theorem rd_sum (c v : Nat → Nat) (N : Nat) {r : Nat} (hr : r ≤ 8) : RdC c v N (pSum c v r) m_Reader_readSum (3 * r + 4) r := rd_readSum (by omega) (rd_readTerm (by omega) (rd_part c v N r hr))
theorem rd_plain (c v : Nat → Nat) (N : Nat) : ∀ r, r ≤ 8 → RdC c v N (pPlain c v r) m_Reader_readPlain (3 * r + 6) r
  | 0, _ => rd_readPlain (h := 5) (by omega) (rd_readComparison (by omega) (rd_sum c v N (by omega))) (Or.inl ⟨rfl, fun _ _ _ => rfl⟩) (by omega)
  | r + 1, h => by
    have ih := rd_plain c v N r (by omega)
    have h2 : RdC c v N (pTestOf c (pPlain c v r)) m_Reader_readTest (3 * r + 6 + 1 + 1) (r + 1 - 1) := rd_readTest (by omega) (rd_readBoth (by omega) ih)
    exact rd_readPlain (h := 3 * (r + 1) + 5) h (rd_readComparison (by omega) (rd_sum c v N h)) (Or.inr ⟨by omega, RdC_mono (by omega) h2⟩) (by omega)
theorem rd_test (c v : Nat → Nat) (N : Nat) {r : Nat} (hr : r ≤ 8) : RdC c v N (pTest c v r) m_Reader_readTest (3 * r + 8) r := rd_readTest (by omega) (rd_readBoth (by omega) (rd_plain c v N r hr))
theorem rm_part (c v : Nat → Nat) (N : Nat) : ∀ r, r ≤ 8 → RdM c v N (pPart c v r) m_M_readPart (3 * r + 4) r
  | 0, _ => rm_readPart (h := 3) (by omega) (Or.inl ⟨rfl, fun _ _ _ => rfl⟩) (by omega)
  | r + 1, h => by
    have ih := rm_part c v N r (by omega)
    have h2 : RdM c v N (pSumOf c (pPart c v r)) m_M_readSum (3 * r + 4 + 1 + 1) (r + 1 - 1) := rm_readSum (by omega) (rm_readTerm (by omega) ih)
    exact rm_readPart (inn := pSumOf c (pPart c v r)) h (Or.inr ⟨by omega, h2⟩) (by omega)
theorem rm_sum (c v : Nat → Nat) (N : Nat) {r : Nat} (hr : r ≤ 8) : RdM c v N (pSum c v r) m_M_readSum (3 * r + 6) r := rm_readSum (by omega) (rm_readTerm (by omega) (rm_part c v N r hr))
theorem rm_plain (c v : Nat → Nat) (N : Nat) : ∀ r, r ≤ 8 → RdM c v N (pPlain c v r) m_M_readPlain (3 * r + 7) r
  | 0, _ => rm_readPlain (h := 6) (by omega) (rm_sum c v N (by omega)) (Or.inl ⟨rfl, fun _ _ _ => rfl⟩) (by omega)
  | r + 1, h => by
    have ih := rm_plain c v N r (by omega)
    have h2 : RdM c v N (pTestOf c (pPlain c v r)) m_M_readTest (3 * r + 7 + 1 + 1) (r + 1 - 1) := rm_readTest (by omega) (rm_readBoth (by omega) ih)
    exact rm_readPlain (h := 3 * (r + 1) + 6) h (rm_sum c v N h) (Or.inr ⟨by omega, RdM_mono (by omega) h2⟩) (by omega)
theorem rm_test (c v : Nat → Nat) (N : Nat) {r : Nat} (hr : r ≤ 8) : RdM c v N (pTest c v r) m_M_readTest (3 * r + 9) r := rm_readTest (by omega) (rm_readBoth (by omega) (rm_plain c v N r hr))
/-! clause behind clause -/
def tailP (c v : Nat → Nat) (N n a p s : Nat) : Nat ⊕ List PC := if a = N then .inr [] else if c a = 159 then pLaw c v N n (a + 1) p s else .inl a
def consP (C : PC) (x : Nat ⊕ List PC) : Nat ⊕ List PC := match x with
  | .inl f => .inl f
  | .inr l => .inr (C :: l)
theorem pLaw_succ {c v : Nat → Nat} {N n a p s a' p' : Nat} {C : PC} (h : pClause c v a p s = .inr (a', p', C)) : pLaw c v N (n + 1) a p s = consP C (tailP c v N n a' p' (s + C.2.2.1.length)) := by
  show (match pClause c v a p s with | .inl f => _ | .inr (a', p', C) => _) = _
  rw [h]
  simp only
  unfold tailP
  by_cases h1 : a' = N
  · rw [if_pos h1, if_pos h1]
    rfl
  · rw [if_neg h1, if_neg h1]
    by_cases h2 : c a' = 159
    · rw [if_pos h2, if_pos h2]
      rfl
    · rw [if_neg h2, if_neg h2]
      rfl
theorem pLaw_f {c v : Nat → Nat} {N n a p s f : Nat} (h : pClause c v a p s = .inl f) : pLaw c v N (n + 1) a p s = .inl f := by
  show (match pClause c v a p s with | .inl f => _ | .inr (a', p', C) => _) = _
  rw [h]
def lenL : List PC → Nat
  | [] => 0
  | C :: l => C.2.2.1.length + lenL l
theorem CsAt_low {gi gi' : GI} {n s : Nat} {C : PC} (h : CsAt (gi 34 0) (gi 35 0) (gi 36 0) (gi 37 0) (gi 38 0) n s [C]) (hl : ClLow gi gi' (n + 1) (s + C.2.2.1.length)) (h34 : gi' 34 0 (n + 1) = n32 (s + C.2.2.1.length)) : CsAt (gi' 34 0) (gi' 35 0) (gi' 36 0) (gi' 37 0) (gi' 38 0) n s [C] := by
  obtain ⟨h1, h2, h3, h4, h5, -⟩ := h
  obtain ⟨e1, e2, e3⟩ := hl.1 n (by omega)
  exact ⟨e1.trans h1, e2.trans h2, e3.trans h3, CodeAt_congr h4 (fun j _ q => hl.2 j q), h34, trivial⟩
theorem ClLow_trans {a b c : GI} {n s n' s' : Nat} (h1 : ClLow a b n s) (h2 : ClLow b c n' s') (hn : n ≤ n') (hs : s ≤ s') : ClLow a c n s := by
  refine ⟨fun j hj => ?_, fun j hj => ?_⟩
  · have w1 := h1.1 j hj
    have w2 := h2.1 j (by omega)
    exact ⟨w2.1.trans w1.1, w2.2.1.trans w1.2.1, w2.2.2.trans w1.2.2⟩
  · have w1 := h1.2 j hj
    have w2 := h2.2 j (by omega)
    exact ⟨w2.1.trans w1.1, w2.2.trans w1.2⟩
theorem CsAt_end {f1 f2 f3 f4 f5 : Nat → Int32} {n s : Nat} : ∀ {l : List PC}, l ≠ [] → CsAt f1 f2 f3 f4 f5 n s l → f1 n = n32 s
  | [], h, _ => absurd rfl h
  | _ :: _, _, h => h.1
theorem rd_clauses_loop {c v : Nat → Nat} {N : Nat} : ∀ n : Nat, n ≤ 12 → ∀ (D : Nat) (gi : GI) (g : AG) (Q : Option AV → AH → Prop) (a p s i : Nat), i + n = 12 → 33 ≤ D → GOK g → TokC gi c v N → gi 6 0 4 = n32 a → gi 6 0 5 = n32 p → gi 6 0 8 = n32 s → gi 6 0 7 = n32 i → a ≤ N → s ≤ a → p ≤ 50 →
    (∀ f gi', pLaw c v N n a p s = .inl f → Fr clMod gi gi' → gi' 6 0 6 = gi 33 0 f → f ≤ N → Q (some (.inl (n32 0))) (gi', g)) →
    (∀ l gi', pLaw c v N n a p s = .inr l → l ≠ [] → Fr clMod gi gi' → gi' 6 0 7 = n32 (i + l.length) → i + l.length ≤ 12 → gi' 6 0 8 = n32 (s + lenL l) → s + lenL l ≤ 400 → gi' 6 0 6 = gi 6 0 6 → CsAt (gi' 34 0) (gi' 35 0) (gi' 36 0) (gi' 37 0) (gi' 38 0) i s l → ClLow gi gi' i s → Q (some (.inl (n32 1))) (gi', g)) →
    Runs D (m_Reader_readClauses, 2, [some (.inr (.inr (some (6, 0)))), some (.inl (n32 i))], []) (gi, g) Q := by
  intro n
  induction n with
  | zero =>
    intro _ D gi g Q a p s i hi hD hG ht ha hp hs hn haN hsa hp50 hf hok
    obtain ⟨d, rfl⟩ : ∃ d2, D = d2 + 1 := ⟨D - 1, by omega⟩
    have hN : N ≤ 400 := ht.1
    have e : i = 12 := by omega
    subst e
    rw [b_Reader_readClauses_2]
    simp (disch := omega) only [b_Reader_readClauses_48, b_Reader_readClauses_52, c_rfail d hG ha (by omega : a ≤ 400), n32_add, n32_mul, n32_lt, n32_le, n32_eq, n32_clamp, n32_inT, n32_div, n32_rem, n32_m1, n32_m1', n32_m1lt, n32_ltm1, n32_10, n32_01, Nat.not_lt_zero, Nat.lt_irrefl, Nat.mul_zero, Nat.zero_mul, Nat.zero_add, Nat.add_zero, Nat.reduceEqDiff, Nat.one_ne_zero, Nat.zero_ne_one, ax_psh_none, ax_psh_some, true_and, and_true, and_false, false_and, not_true_eq_false, not_false_eq_true, true_imp_iff, false_imp_iff, imp_self, or_true, true_or, or_false, false_or, and_self, ite_true, ite_false, if_true, if_false]
    exact hf a _ rfl (Fr_wI (Fr_refl _ _) rfl) (by simp [wI_at]) haN
  | succ n ih =>
    intro hn12 D gi g Q a p s i hi hD hG ht ha hp hs hn haN hsa hp50 hf hok
    obtain ⟨d, rfl⟩ : ∃ d2, D = d2 + 1 := ⟨D - 1, by omega⟩
    have hN : N ≤ 400 := ht.1
    have hlt : i < 12 := by omega
    rw [b_Reader_readClauses_2]
    simp (disch := omega) only [b_Reader_readClauses_8, hlt, n32_add, n32_mul, n32_lt, n32_le, n32_eq, n32_clamp, n32_inT, n32_div, n32_rem, n32_m1, n32_m1', n32_m1lt, n32_ltm1, n32_10, n32_01, Nat.not_lt_zero, Nat.lt_irrefl, Nat.mul_zero, Nat.zero_mul, Nat.zero_add, Nat.add_zero, Nat.reduceEqDiff, Nat.one_ne_zero, Nat.zero_ne_one, ax_psh_none, ax_psh_some, true_and, and_true, and_false, false_and, not_true_eq_false, not_false_eq_true, true_imp_iff, false_imp_iff, imp_self, or_true, true_or, or_false, false_or, and_self, ite_true, ite_false, if_true, if_false]
    apply rd_readClause (h := 32) (RdC_mono (by omega) (rd_sum c v N (Nat.le_refl 8))) (rd_test c v N (Nat.le_refl 8)) (by omega) (d + 1) gi g _ a p s i (by omega) hG ht ha hp hs hn hlt haN hsa hp50
    · intro f gi' hk hfr h6 hfN
      simp only [b_Reader_readClauses_12, b_Reader_readClauses_15, ax_psh_none, ax_psh_some, true_and, and_true, and_false, false_and, not_true_eq_false, not_false_eq_true, true_imp_iff, false_imp_iff, imp_self, or_true, true_or, or_false, false_or, and_self, ite_true, ite_false, if_true, if_false]
      exact hf f gi' (pLaw_f hk) hfr h6 hfN
    · intro a' p' C gi' hk hfr ha' hp' hn' hs' hl1 hl2 haN' hp50' h66 hcs hlow
      have ht' := TokC_cl ht hfr
      obtain ⟨k0, k1, k2, k3⟩ := ht'.2.2 a' haN'
      by_cases hend : a' = N
      · have kk : gi' 31 0 a' = n32 0 := ((k3 (by rw [ht.2.1 a' (by omega)]; decide)).1 hend).1
        simp (disch := omega) only [b_Reader_readClauses_12, b_Reader_readClauses_17, b_Reader_readClauses_29, G_0_0 hG, G_0_1 hG, G_0_2 hG, G_0_3 hG, G_0_7 hG, G_0_10 hG, G_0_12 hG, G_0_13 hG, G_0_14 hG, G_0_15 hG, G_0_16 hG, G_0_17 hG, G_1_0 hG, G_1_2 hG, G_1_5 hG, G_2_4 hG, G_2_5 hG, G_3_5 hG, G_3_6 hG, G_3_7 hG, G_3_8 hG, G_3_9 hG, G_5_0 hG, G_5_1 hG, G_6_0 hG, G_6_1 hG, G_6_2 hG, G_6_9 hG, G_6_10 hG, G_6_11 hG, G_6_12 hG, G_6_13 hG, G_7_0 hG, G_7_5 hG, G_8_8 hG, G_8_9 hG, G_9_8 hG, G_9_9 hG, G_10_7 hG, G_10_8 hG, G_10_9 hG, G_10_10 hG, G_10_11 hG, G_11_0 hG, G_12_2 hG, G_12_3 hG, G_12_4 hG, G_12_5 hG, G_12_7 hG, G_12_8 hG, G_12_9 hG, G_12_12 hG, G_12_13 hG, G_12_14 hG, G_12_22 hG, G_12_23 hG, G_12_29 hG, G_12_30 hG, G_12_31 hG, G_12_37 hG, G_12_38 hG, G_12_39 hG, G_12_40 hG, G_12_41 hG, G_12_43 hG, G_12_46 hG, G_12_47 hG, G_12_48 hG, G_25 hG, G_26 hG, G_47 hG, G_58 hG, ha', kk, n32_add, n32_mul, n32_lt, n32_le, n32_eq, n32_clamp, n32_inT, n32_div, n32_rem, n32_m1, n32_m1', n32_m1lt, n32_ltm1, n32_10, n32_01, Nat.not_lt_zero, Nat.lt_irrefl, Nat.mul_zero, Nat.zero_mul, Nat.zero_add, Nat.add_zero, Nat.reduceEqDiff, Nat.one_ne_zero, Nat.zero_ne_one, ax_psh_none, ax_psh_some, true_and, and_true, and_false, false_and, not_true_eq_false, not_false_eq_true, true_imp_iff, false_imp_iff, imp_self, or_true, true_or, or_false, false_or, and_self, ite_true, ite_false, if_true, if_false]
        refine hok [C] gi' ?_ (by simp) hfr hn' ?_ ?_ ?_ h66 hcs hlow
        · rw [pLaw_succ hk]
          simp only [tailP, hend, if_true, consP]
        · simp only [List.length_cons, List.length_nil]
          omega
        · rw [hs']
          simp only [lenL, Nat.add_zero]
        · simp only [lenL, Nat.add_zero]
          omega
      · have kk : ¬ gi' 31 0 a' = n32 0 := by
          rcases k0 with k0 | k0 | k0
          · rw [((k3 k0).2 (by omega)).1, n32_eq (by omega) (by omega)]
            omega
          · rw [(k2 k0).1, n32_eq (by omega) (by omega)]
            omega
          · rw [(k1 k0.1).1, n32_eq (by omega) (by omega)]
            omega
        by_cases h59 : c a' = 159
        · simp (disch := omega) only [b_Reader_readClauses_12, b_Reader_readClauses_17, b_Reader_readClauses_31, b_Reader_readClauses_37, b_Reader_readClauses_42, G_0_0 hG, G_0_1 hG, G_0_2 hG, G_0_3 hG, G_0_7 hG, G_0_10 hG, G_0_12 hG, G_0_13 hG, G_0_14 hG, G_0_15 hG, G_0_16 hG, G_0_17 hG, G_1_0 hG, G_1_2 hG, G_1_5 hG, G_2_4 hG, G_2_5 hG, G_3_5 hG, G_3_6 hG, G_3_7 hG, G_3_8 hG, G_3_9 hG, G_5_0 hG, G_5_1 hG, G_6_0 hG, G_6_1 hG, G_6_2 hG, G_6_9 hG, G_6_10 hG, G_6_11 hG, G_6_12 hG, G_6_13 hG, G_7_0 hG, G_7_5 hG, G_8_8 hG, G_8_9 hG, G_9_8 hG, G_9_9 hG, G_10_7 hG, G_10_8 hG, G_10_9 hG, G_10_10 hG, G_10_11 hG, G_11_0 hG, G_12_2 hG, G_12_3 hG, G_12_4 hG, G_12_5 hG, G_12_7 hG, G_12_8 hG, G_12_9 hG, G_12_12 hG, G_12_13 hG, G_12_14 hG, G_12_22 hG, G_12_23 hG, G_12_29 hG, G_12_30 hG, G_12_31 hG, G_12_37 hG, G_12_38 hG, G_12_39 hG, G_12_40 hG, G_12_41 hG, G_12_43 hG, G_12_46 hG, G_12_47 hG, G_12_48 hG, G_25 hG, G_26 hG, G_47 hG, G_58 hG, ha', kk, c_exp_y d hG ht' ha' haN' (ch := 59) h59, n32_add, n32_mul, n32_lt, n32_le, n32_eq, n32_clamp, n32_inT, n32_div, n32_rem, n32_m1, n32_m1', n32_m1lt, n32_ltm1, n32_10, n32_01, Nat.not_lt_zero, Nat.lt_irrefl, Nat.mul_zero, Nat.zero_mul, Nat.zero_add, Nat.add_zero, Nat.reduceEqDiff, Nat.one_ne_zero, Nat.zero_ne_one, ax_psh_none, ax_psh_some, true_and, and_true, and_false, false_and, not_true_eq_false, not_false_eq_true, true_imp_iff, false_imp_iff, imp_self, or_true, true_or, or_false, false_or, and_self, ite_true, ite_false, if_true, if_false]
          have fr1 : Fr clMod gi (ax_wI gi' 6 0 4 (n32 (a' + 1))) := Fr_wI hfr rfl
          have et : pLaw c v N (n + 1) a p s = consP C (pLaw c v N n (a' + 1) p' (s + C.2.2.1.length)) := by
            rw [pLaw_succ hk]
            simp only [tailP, hend, h59, if_true, if_false]
          refine ih (by omega) (d + 1) _ g Q (a' + 1) p' (s + C.2.2.1.length) (i + 1) (by omega) hD hG (TokC_cl ht fr1) (by simp [wI_at]) (by simp [wI_at, hp']) (by simp [wI_at, hs']) (by simp [wI_at, hn']) (by omega) (by omega) hp50' ?_ ?_
          · intro f gi'' q1 q2 q3 q4
            exact hf f gi'' (by rw [et, q1]; rfl) (Fr_trans fr1 q2) (q3.trans (fr1 33 0 f rfl)) q4
          · intro l gi'' q1 q0 q2 q3 q3b q4 q4b q5 q6 q7
            have hlow' : ClLow gi' gi'' (i + 1) (s + C.2.2.1.length) := by
              refine ⟨fun j hj => ?_, fun j hj => ?_⟩
              · have := q7.1 j hj
                simpa [wI_at] using this
              · have := q7.2 j hj
                simpa [wI_at] using this
            have hc1 := CsAt_low hcs hlow' (CsAt_end q0 q6)
            refine hok (C :: l) gi'' (by rw [et, q1]; rfl) (by simp) (Fr_trans fr1 q2) ?_ ?_ ?_ ?_ ?_ ?_ ?_
            · rw [q3]
              simp only [List.length_cons]
              congr 1
              omega
            · simp only [List.length_cons]
              omega
            · rw [q4]
              simp only [lenL]
              congr 1
              omega
            · simp only [lenL]
              omega
            · rw [q5]
              simp only [wI_at, ax_psh_none, ax_psh_some, true_and, and_true, and_false, false_and, not_true_eq_false, not_false_eq_true, true_imp_iff, false_imp_iff, imp_self, or_true, true_or, or_false, false_or, and_self, ite_true, ite_false, if_true, if_false, reduceIte, Nat.reduceEqDiff, Nat.reduceLT, Nat.reduceAdd, Nat.reduceMul, Nat.reduceSub, Nat.reduceDiv, Nat.reduceMod, Nat.reduceLeDiff]
              exact h66
            · exact ⟨hc1.1, hc1.2.1, hc1.2.2.1, hc1.2.2.2.1, hc1.2.2.2.2.1, q6⟩
            · exact ClLow_trans hlow hlow' (by omega) (by omega)
        · simp (disch := omega) only [b_Reader_readClauses_12, b_Reader_readClauses_17, b_Reader_readClauses_31, b_Reader_readClauses_37, b_Reader_readClauses_40, G_0_0 hG, G_0_1 hG, G_0_2 hG, G_0_3 hG, G_0_7 hG, G_0_10 hG, G_0_12 hG, G_0_13 hG, G_0_14 hG, G_0_15 hG, G_0_16 hG, G_0_17 hG, G_1_0 hG, G_1_2 hG, G_1_5 hG, G_2_4 hG, G_2_5 hG, G_3_5 hG, G_3_6 hG, G_3_7 hG, G_3_8 hG, G_3_9 hG, G_5_0 hG, G_5_1 hG, G_6_0 hG, G_6_1 hG, G_6_2 hG, G_6_9 hG, G_6_10 hG, G_6_11 hG, G_6_12 hG, G_6_13 hG, G_7_0 hG, G_7_5 hG, G_8_8 hG, G_8_9 hG, G_9_8 hG, G_9_9 hG, G_10_7 hG, G_10_8 hG, G_10_9 hG, G_10_10 hG, G_10_11 hG, G_11_0 hG, G_12_2 hG, G_12_3 hG, G_12_4 hG, G_12_5 hG, G_12_7 hG, G_12_8 hG, G_12_9 hG, G_12_12 hG, G_12_13 hG, G_12_14 hG, G_12_22 hG, G_12_23 hG, G_12_29 hG, G_12_30 hG, G_12_31 hG, G_12_37 hG, G_12_38 hG, G_12_39 hG, G_12_40 hG, G_12_41 hG, G_12_43 hG, G_12_46 hG, G_12_47 hG, G_12_48 hG, G_25 hG, G_26 hG, G_47 hG, G_58 hG, ha', kk, c_exp_n d hG ht' ha' haN' (ch := 59) (by decide) h59, n32_add, n32_mul, n32_lt, n32_le, n32_eq, n32_clamp, n32_inT, n32_div, n32_rem, n32_m1, n32_m1', n32_m1lt, n32_ltm1, n32_10, n32_01, Nat.not_lt_zero, Nat.lt_irrefl, Nat.mul_zero, Nat.zero_mul, Nat.zero_add, Nat.add_zero, Nat.reduceEqDiff, Nat.one_ne_zero, Nat.zero_ne_one, ax_psh_none, ax_psh_some, true_and, and_true, and_false, false_and, not_true_eq_false, not_false_eq_true, true_imp_iff, false_imp_iff, imp_self, or_true, true_or, or_false, false_or, and_self, ite_true, ite_false, if_true, if_false]
          refine hf a' _ ?_ (Fr_wI hfr rfl) ?_ haN'
          · rw [pLaw_succ hk]
            simp only [tailP, hend, h59, if_false, consP]
          · simp only [wI_at, ax_psh_none, ax_psh_some, true_and, and_true, and_false, false_and, not_true_eq_false, not_false_eq_true, true_imp_iff, false_imp_iff, imp_self, or_true, true_or, or_false, false_or, and_self, ite_true, ite_false, if_true, if_false, reduceIte, Nat.reduceEqDiff, Nat.reduceLT, Nat.reduceAdd, Nat.reduceMul, Nat.reduceSub, Nat.reduceDiv, Nat.reduceMod, Nat.reduceLeDiff]
            exact hfr 33 0 a' rfl
/-! the reference -/
theorem rm_readIf {c v : Nat → Nat} {N h : Nat} (htest : RdM c v N (pTest c v 8) m_M_readTest h 8) (hh : 2 ≤ h) (D : Nat) (gi : GI) (g : AG) (Q : Option AV → AH → Prop) (a p s : Nat) (sp : Bool) (k : List (Nat × Nat)) (m : (Nat → Int) → Option Int) (hD : h ≤ D) (hG : GOK g) (ht : TokM gi c v N) (hb : gi 12 0 18 = -1) (ha : gi 12 0 16 = n32 a) (hp : gi 12 0 17 = n32 p) (haN : a ≤ N) (hp50 : p ≤ 50)
    (hf : ∀ f gi', pIf c v sp s a p k m = .inl f → Fr rmMod gi gi' → gi' 12 0 18 = gi 72 0 f → f ≤ N → Q none (gi', g))
    (hok : ∀ a' p' C gi', pIf c v sp s a p k m = .inr (a', p', C) → Fr rmMod gi gi' → gi' 12 0 18 = -1 → gi' 12 0 16 = n32 a' → gi' 12 0 17 = n32 p' → a ≤ a' → a' ≤ N → p' ≤ 50 → Q none (gi', g)) :
    Runs D (m_M_readClause, 21, [some (.inr (.inr (some (12, 0))))], []) (gi, g) Q := by
  obtain ⟨d, rfl⟩ : ∃ d2, D = d2 + 2 := ⟨D - 2, by omega⟩
  by_cases hi : c a = 3
  · have fr1 : Fr rmMod gi (ax_wI gi 12 0 16 (n32 (a + 1))) := Fr_wI (Fr_refl _ _) rfl
    simp only [b_M_readClause_21, b_M_readClause_26, b_M_readClause_29, c_takes_y _ hG ht hb ha haN (x := 3) hi, n32_10, ax_psh_none, ax_psh_some, true_and, and_true, and_false, false_and, not_true_eq_false, not_false_eq_true, true_imp_iff, false_imp_iff, imp_self, or_true, true_or, or_false, false_or, and_self, ite_true, ite_false, if_true, if_false]
    apply htest (d + 2) _ g _ (a + 1) p (s + k.length) hD hG (TokM_fr ht fr1) (by simp [wI_at, hb]) (by simp [wI_at]) (by simp [wI_at, hp]) (TokM_lt ht hi (by decide)) hp50
    · intro f gi' hk hfr h6 hfN
      simp only [b_M_readClause_34, ax_psh_none, ax_psh_some, true_and, and_true, and_false, false_and, not_true_eq_false, not_false_eq_true, true_imp_iff, false_imp_iff, imp_self, or_true, true_or, or_false, false_or, and_self, ite_true, ite_false, if_true, if_false]
      exact hf f gi' (by simp only [pIf, hi, if_true, hk]) (Fr_trans fr1 hfr) (h6.trans (fr1 72 0 f rfl)) hfN
    · intro a' p' k' m' gi' hk hfr hb' ha' hp' hl haN' hp50'
      simp only [b_M_readClause_34, ax_psh_none, ax_psh_some, true_and, and_true, and_false, false_and, not_true_eq_false, not_false_eq_true, true_imp_iff, false_imp_iff, imp_self, or_true, true_or, or_false, false_or, and_self, ite_true, ite_false, if_true, if_false]
      exact hok a' p' (sp, true, k ++ k', m, m') gi' (by simp only [pIf, hi, if_true, hk]) (Fr_trans fr1 hfr) hb' ha' hp' (by omega) haN' hp50'
  · simp only [b_M_readClause_21, b_M_readClause_26, b_M_readClause_34, c_takes_n _ hG ht hb ha haN (x := 3) (by decide) hi, ax_psh_none, ax_psh_some, true_and, and_true, and_false, false_and, not_true_eq_false, not_false_eq_true, true_imp_iff, false_imp_iff, imp_self, or_true, true_or, or_false, false_or, and_self, ite_true, ite_false, if_true, if_false]
    exact hok a p (sp, false, k, m, fun _ => some true) gi (by simp only [pIf, hi, if_false]) (Fr_refl _ _) hb ha hp (by omega) haN hp50
theorem rm_readClause {c v : Nat → Nat} {N h : Nat} (hsum : RdM c v N (pSum c v 8) m_M_readSum h 8) (htest : RdM c v N (pTest c v 8) m_M_readTest h 8) (hh : 3 ≤ h) (D : Nat) (gi : GI) (g : AG) (Q : Option AV → AH → Prop) (a p s : Nat) (hD : h + 1 ≤ D) (hG : GOK g) (ht : TokM gi c v N) (hb : gi 12 0 18 = -1) (ha : gi 12 0 16 = n32 a) (hp : gi 12 0 17 = n32 p) (haN : a ≤ N) (hp50 : p ≤ 50)
    (hf : ∀ f gi', pClause c v a p s = .inl f → Fr rmMod gi gi' → gi' 12 0 18 = gi 72 0 f → f ≤ N → Q none (gi', g))
    (hok : ∀ a' p' C gi', pClause c v a p s = .inr (a', p', C) → Fr rmMod gi gi' → gi' 12 0 18 = -1 → gi' 12 0 16 = n32 a' → gi' 12 0 17 = n32 p' → a < a' → a' ≤ N → p' ≤ 50 → Q none (gi', g)) :
    ax_call D m_M_readClause [.inr (.inr (some (12, 0)))] (gi, g) Q := by
  obtain ⟨d, rfl⟩ : ∃ d2, D = d2 + 4 := ⟨D - 4, by omega⟩
  have hN : N ≤ 400 := ht.1
  rw [e_M_readClause]
  have fr1 : Fr rmMod gi (ax_wI gi 12 0 16 (n32 (a + 1))) := Fr_wI (Fr_refl _ _) rfl
  by_cases h2 : c a = 2
  · simp only [b_M_readClause_0, b_M_readClause_5, b_M_readClause_16, c_takes_n _ hG ht hb ha haN (x := 1) (by decide) (by rw [h2]; decide), c_must_y _ hG ht hb ha haN (x := 2) h2, ax_psh_none, ax_psh_some, true_and, and_true, and_false, false_and, not_true_eq_false, not_false_eq_true, true_imp_iff, false_imp_iff, imp_self, or_true, true_or, or_false, false_or, and_self, ite_true, ite_false, if_true, if_false]
    refine rm_readIf htest (by omega) (d + 3) _ g Q (a + 1) p s true [] (fun _ => some 0) (by omega) hG (TokM_fr ht fr1) (by simp [wI_at, hb]) (by simp [wI_at]) (by simp [wI_at, hp]) (TokM_lt ht h2 (by decide)) hp50 ?_ ?_
    · intro f gi' hk hfr h6 hfN
      exact hf f gi' (by simp only [pClause, h2, if_true]; exact hk) (Fr_trans fr1 hfr) (h6.trans (fr1 72 0 f rfl)) hfN
    · intro a' p' C gi' hk hfr hb' ha' hp' hl haN' hp50'
      exact hok a' p' C gi' (by simp only [pClause, h2, if_true]; exact hk) (Fr_trans fr1 hfr) hb' ha' hp' (by omega) haN' hp50'
  · by_cases h1 : c a = 1
    · simp only [b_M_readClause_0, b_M_readClause_5, b_M_readClause_8, c_takes_y _ hG ht hb ha haN (x := 1) h1, n32_10, ax_psh_none, ax_psh_some, true_and, and_true, and_false, false_and, not_true_eq_false, not_false_eq_true, true_imp_iff, false_imp_iff, imp_self, or_true, true_or, or_false, false_or, and_self, ite_true, ite_false, if_true, if_false]
      apply hsum (d + 3) _ g _ (a + 1) p s (by omega) hG (TokM_fr ht fr1) (by simp [wI_at, hb]) (by simp [wI_at]) (by simp [wI_at, hp]) (TokM_lt ht h1 (by decide)) hp50
      · intro f gi' hk hfr h6 hfN
        have hbad' : ¬ gi' 12 0 18 = -1 := by
          rw [h6]
          exact TokM_bad (TokM_fr ht fr1) hfN
        simp only [b_M_readClause_13, b_M_readClause_21, b_M_readClause_26, b_M_readClause_34, c_takes_b _ _ _ _ _ hbad', ax_psh_none, ax_psh_some, true_and, and_true, and_false, false_and, not_true_eq_false, not_false_eq_true, true_imp_iff, false_imp_iff, imp_self, or_true, true_or, or_false, false_or, and_self, ite_true, ite_false, if_true, if_false]
        exact hf f gi' (by simp [pClause, h1, hk]) (Fr_trans fr1 hfr) (h6.trans (fr1 72 0 f rfl)) hfN
      · intro a1 p1 k m gi1 hk hfr hb1 ha1 hp1 hl1 haN1 hp501
        have fr2 := Fr_trans fr1 hfr
        simp only [b_M_readClause_13, ax_psh_none, ax_psh_some, true_and, and_true, and_false, false_and, not_true_eq_false, not_false_eq_true, true_imp_iff, false_imp_iff, imp_self, or_true, true_or, or_false, false_or, and_self, ite_true, ite_false, if_true, if_false]
        refine rm_readIf htest (by omega) (d + 3) gi1 g Q a1 p1 s false k m (by omega) hG (TokM_fr ht fr2) hb1 ha1 hp1 haN1 hp501 ?_ ?_
        · intro f gi' hk' hfr' h6 hfN
          exact hf f gi' (by simp [pClause, h1, hk, hk']) (Fr_trans fr2 hfr') (h6.trans (fr2 72 0 f rfl)) hfN
        · intro a' p' C gi' hk' hfr' hb' ha' hp' hl haN' hp50'
          exact hok a' p' C gi' (by simp [pClause, h1, hk, hk']) (Fr_trans fr2 hfr') hb' ha' hp' (by omega) haN' hp50'
    · have hbad1 : ¬ ax_wI gi 12 0 18 (gi 72 0 a) 12 0 18 = -1 := by
        have := TokM_bad ht haN
        simpa [wI_at] using this
      simp only [b_M_readClause_0, b_M_readClause_5, b_M_readClause_16, b_M_readClause_21, b_M_readClause_26, b_M_readClause_34, c_takes_n _ hG ht hb ha haN (x := 1) (by decide) h1, c_must_n _ hG ht hb ha haN (x := 2) (by decide) h2, c_takes_b _ _ _ _ _ hbad1, ax_psh_none, ax_psh_some, true_and, and_true, and_false, false_and, not_true_eq_false, not_false_eq_true, true_imp_iff, false_imp_iff, imp_self, or_true, true_or, or_false, false_or, and_self, ite_true, ite_false, if_true, if_false]
      exact hf a _ (by simp only [pClause, h1, h2, if_false]) (Fr_wI (Fr_refl _ _) rfl) (by simp [wI_at]) haN
def rfMod (s j : Nat) : Bool := rmMod s j || (s == 12 && j == 11)
theorem Fr_rf {gi gi' : GI} (h : Fr rmMod gi gi') : Fr rfMod gi gi' := Fr_mono h (fun s j q => by
  unfold rfMod at q
  simp only [Bool.or_eq_false_iff] at q
  exact q.1)
theorem rm_bad_end {d : Nat} {gi : GI} {g : AG} {Q : Option AV → AH → Prop} (x : Int32) (hbad : ¬ gi 12 0 18 = -1) (hq : Q (some (.inl (n32 0))) (ax_wI gi 12 0 11 (gi 12 0 18), g)) : Runs (d + 2) (m_M_reads, 34, [some (.inr (.inr (some (12, 0)))), some (.inl x)], []) (gi, g) Q := by
  have hbad1 : ¬ ax_wI gi 12 0 11 (gi 12 0 18) 12 0 18 = -1 := by simpa [wI_at] using hbad
  rw [b_M_reads_34]
  simp only [c_M_sign, b_M_reads_40, b_M_reads_43, b_M_reads_73, b_M_reads_77, b_M_reads_95, b_M_reads_107, c_takes_b _ _ _ _ _ hbad, c_M_fine_n _ _ _ _ hbad, c_M_fine_n _ _ _ _ hbad1, ax_psh_none, ax_psh_some, true_and, and_true, and_false, false_and, not_true_eq_false, not_false_eq_true, true_imp_iff, false_imp_iff, imp_self, or_true, true_or, or_false, false_or, and_self, ite_true, ite_false, if_true, if_false]
  exact hq
theorem rm_tail {c v : Nat → Nat} {N : Nat} : ∀ rem : Nat, ∀ (D : Nat) (gi : GI) (g : AG) (Q : Option AV → AH → Prop) (a p s n : Nat), n + rem = 12 → 34 ≤ D → GOK g → TokM gi c v N → gi 12 0 18 = -1 → gi 12 0 16 = n32 a → gi 12 0 17 = n32 p → gi 12 0 15 = n32 N → a ≤ N → p ≤ 50 →
    (∀ f gi', tailP c v N rem a p s = .inl f → Fr rfMod gi gi' → gi' 12 0 11 = gi 72 0 f → f ≤ N → Q (some (.inl (n32 0))) (gi', g)) →
    (∀ l gi', tailP c v N rem a p s = .inr l → Fr rfMod gi gi' → gi' 12 0 11 = -1 → Q (some (.inl (n32 1))) (gi', g)) →
    Runs D (m_M_reads, 34, [some (.inr (.inr (some (12, 0)))), some (.inl (n32 n))], []) (gi, g) Q := by
  intro rem
  induction rem with
  | zero =>
    intro D gi g Q a p s n hn hD hG ht hb ha hp hNN haN hp50 hf hok
    have e12 : n = 12 := by omega
    subst e12
    obtain ⟨d, rfl⟩ : ∃ d2, D = d2 + 2 := ⟨D - 2, by omega⟩
    have hN : N ≤ 400 := ht.1
    by_cases h59 : c a = 159
    · have haN1 := TokM_lt ht h59 (by decide)
      have fr1 : Fr rmMod gi (ax_wI gi 12 0 16 (n32 (a + 1))) := Fr_wI (Fr_refl _ _) rfl
      have hb1 : ax_wI gi 12 0 16 (n32 (a + 1)) 12 0 18 = -1 := by simp [wI_at, hb]
      have ha1 : ax_wI gi 12 0 16 (n32 (a + 1)) 12 0 16 = n32 (a + 1) := by simp [wI_at]
      have hbad := TokM_bad (TokM_fr ht fr1) haN1
      have hbad1 : ¬ ax_wI (ax_wI gi 12 0 16 (n32 (a + 1))) 12 0 18 (ax_wI gi 12 0 16 (n32 (a + 1)) 72 0 (a + 1)) 12 0 18 = -1 := by simpa [wI_at] using hbad
      rw [b_M_reads_34]
      simp (disch := omega) only [c_M_sign, b_M_reads_40, b_M_reads_43, b_M_reads_46, b_M_reads_52, b_M_reads_56, b_M_reads_60, b_M_reads_67, c_takes_y _ hG ht hb ha haN (x := 100 + 59) h59, c_faults _ hG hb1 ha1 (by omega : a + 1 ≤ 400), c_M_fine_n _ _ _ _ hbad1, n32_add, n32_mul, n32_lt, n32_le, n32_eq, n32_clamp, n32_inT, n32_div, n32_rem, n32_m1, n32_m1', n32_m1lt, n32_ltm1, n32_10, n32_01, Nat.not_lt_zero, Nat.lt_irrefl, Nat.mul_zero, Nat.zero_mul, Nat.zero_add, Nat.add_zero, Nat.reduceEqDiff, Nat.one_ne_zero, Nat.zero_ne_one, ax_psh_none, ax_psh_some, true_and, and_true, and_false, false_and, not_true_eq_false, not_false_eq_true, true_imp_iff, false_imp_iff, imp_self, or_true, true_or, or_false, false_or, and_self, ite_true, ite_false, if_true, if_false]
      refine rm_bad_end _ hbad1 ?_
      refine hf (a + 1) _ ?_ (Fr_wI (Fr_rf (Fr_wI fr1 rfl)) rfl) ?_ haN1
      · have : ¬ a = N := by omega
        simp only [tailP, this, h59, if_true, if_false]
        rfl
      · simp [wI_at]
    · by_cases hend : a = N
      · have hb1 : ax_wI gi 12 0 11 (-1) 12 0 18 = -1 := by simp [wI_at, hb]
        rw [b_M_reads_34]
        simp (disch := omega) only [c_M_sign, b_M_reads_40, b_M_reads_43, b_M_reads_73, b_M_reads_77, b_M_reads_80, b_M_reads_95, b_M_reads_107, c_takes_n _ hG ht hb ha haN (x := 100 + 59) (by decide) h59, c_M_fine_y _ _ _ _ hb, ha, hNN, hb, c_M_fine_y _ _ _ _ hb1, hend, n32_add, n32_mul, n32_lt, n32_le, n32_eq, n32_clamp, n32_inT, n32_div, n32_rem, n32_m1, n32_m1', n32_m1lt, n32_ltm1, n32_10, n32_01, Nat.not_lt_zero, Nat.lt_irrefl, Nat.mul_zero, Nat.zero_mul, Nat.zero_add, Nat.add_zero, Nat.reduceEqDiff, Nat.one_ne_zero, Nat.zero_ne_one, ax_psh_none, ax_psh_some, true_and, and_true, and_false, false_and, not_true_eq_false, not_false_eq_true, true_imp_iff, false_imp_iff, imp_self, or_true, true_or, or_false, false_or, and_self, ite_true, ite_false, if_true, if_false]
        refine hok [] _ ?_ (Fr_wI (Fr_refl _ _) rfl) ?_
        · simp only [tailP, hend, if_true]
        · simp [wI_at]
      · have hlt : a < N := by omega
        have hbad := TokM_bad ht haN
        have hbad1 : ¬ ax_wI (ax_wI gi 12 0 18 (gi 72 0 a)) 12 0 11 (gi 72 0 a) 12 0 18 = -1 := by simpa [wI_at] using hbad
        have ew : ax_wI gi 12 0 18 (gi 72 0 a) 12 0 18 = gi 72 0 a := by simp [wI_at]
        rw [b_M_reads_34]
        simp (disch := omega) only [c_M_sign, b_M_reads_40, b_M_reads_43, b_M_reads_73, b_M_reads_77, b_M_reads_80, b_M_reads_91, b_M_reads_95, b_M_reads_107, c_takes_n _ hG ht hb ha haN (x := 100 + 59) (by decide) h59, c_M_fine_y _ _ _ _ hb, ha, hNN, hlt, c_faults _ hG hb ha (by omega : a ≤ 400), ew, c_M_fine_n _ _ _ _ hbad1, n32_add, n32_mul, n32_lt, n32_le, n32_eq, n32_clamp, n32_inT, n32_div, n32_rem, n32_m1, n32_m1', n32_m1lt, n32_ltm1, n32_10, n32_01, Nat.not_lt_zero, Nat.lt_irrefl, Nat.mul_zero, Nat.zero_mul, Nat.zero_add, Nat.add_zero, Nat.reduceEqDiff, Nat.one_ne_zero, Nat.zero_ne_one, ax_psh_none, ax_psh_some, true_and, and_true, and_false, false_and, not_true_eq_false, not_false_eq_true, true_imp_iff, false_imp_iff, imp_self, or_true, true_or, or_false, false_or, and_self, ite_true, ite_false, if_true, if_false]
        refine hf a _ ?_ (Fr_wI (Fr_rf (Fr_wI (Fr_refl _ _) rfl)) rfl) ?_ haN
        · simp only [tailP, hend, h59, if_false]
        · simp [wI_at]
  | succ rem ih =>
    intro D gi g Q a p s n hn hD hG ht hb ha hp hNN haN hp50 hf hok
    have hn12 : ¬ n = 12 := by omega
    obtain ⟨d, rfl⟩ : ∃ d2, D = d2 + 2 := ⟨D - 2, by omega⟩
    have hN : N ≤ 400 := ht.1
    by_cases h59 : c a = 159
    · have haN1 := TokM_lt ht h59 (by decide)
      have hne : ¬ a = N := by omega
      have fr1 : Fr rmMod gi (ax_wI gi 12 0 16 (n32 (a + 1))) := Fr_wI (Fr_refl _ _) rfl
      have hb1 : ax_wI gi 12 0 16 (n32 (a + 1)) 12 0 18 = -1 := by simp [wI_at, hb]
      have et : tailP c v N (rem + 1) a p s = pLaw c v N (rem + 1) (a + 1) p s := by
        simp only [tailP, hne, h59, if_true, if_false]
      rw [b_M_reads_34]
      simp (disch := omega) only [c_M_sign, b_M_reads_40, b_M_reads_43, b_M_reads_46, b_M_reads_56, b_M_reads_60, b_M_reads_63, c_takes_y _ hG ht hb ha haN (x := 100 + 59) h59, c_M_fine_y _ _ _ _ hb1, hn12, n32_add, n32_mul, n32_lt, n32_le, n32_eq, n32_clamp, n32_inT, n32_div, n32_rem, n32_m1, n32_m1', n32_m1lt, n32_ltm1, n32_10, n32_01, Nat.not_lt_zero, Nat.lt_irrefl, Nat.mul_zero, Nat.zero_mul, Nat.zero_add, Nat.add_zero, Nat.reduceEqDiff, Nat.one_ne_zero, Nat.zero_ne_one, ax_psh_none, ax_psh_some, true_and, and_true, and_false, false_and, not_true_eq_false, not_false_eq_true, true_imp_iff, false_imp_iff, imp_self, or_true, true_or, or_false, false_or, and_self, ite_true, ite_false, if_true, if_false]
      apply rm_readClause (h := 33) (RdM_mono (by omega) (rm_sum c v N (Nat.le_refl 8))) (rm_test c v N (Nat.le_refl 8)) (by omega) (d + 2) _ g _ (a + 1) p s (by omega) hG (TokM_fr ht fr1) hb1 (by simp [wI_at]) (by simp [wI_at, hp]) haN1 hp50
      · intro f gi' hk hfr h6 hfN
        have hbad' : ¬ gi' 12 0 18 = -1 := by
          rw [h6]
          exact TokM_bad (TokM_fr ht fr1) hfN
        simp only [ax_psh_none, ax_psh_some, true_and, and_true, and_false, false_and, not_true_eq_false, not_false_eq_true, true_imp_iff, false_imp_iff, imp_self, or_true, true_or, or_false, false_or, and_self, ite_true, ite_false, if_true, if_false, b_M_reads_67]
        refine rm_bad_end _ hbad' ?_
        refine hf f _ (by rw [et, pLaw_f hk]) (Fr_wI (Fr_rf (Fr_trans fr1 hfr)) rfl) ?_ hfN
        simp only [wI_at, ax_psh_none, ax_psh_some, true_and, and_true, and_false, false_and, not_true_eq_false, not_false_eq_true, true_imp_iff, false_imp_iff, imp_self, or_true, true_or, or_false, false_or, and_self, ite_true, ite_false, if_true, if_false, reduceIte, Nat.reduceEqDiff, Nat.reduceLT, Nat.reduceAdd, Nat.reduceMul, Nat.reduceSub, Nat.reduceDiv, Nat.reduceMod, Nat.reduceLeDiff]
        exact h6.trans (fr1 72 0 f rfl)
      · intro a' p' C gi' hk hfr hb' ha' hp' hl haN' hp50'
        have fr2 := Fr_trans fr1 hfr
        simp only [ax_psh_none, ax_psh_some, true_and, and_true, and_false, false_and, not_true_eq_false, not_false_eq_true, true_imp_iff, false_imp_iff, imp_self, or_true, true_or, or_false, false_or, and_self, ite_true, ite_false, if_true, if_false, b_M_reads_67, n32_add]
        refine ih (d + 2) gi' g Q a' p' (s + C.2.2.1.length) (n + 1) (by omega) hD hG (TokM_fr ht fr2) hb' ha' hp' ?_ haN' hp50' ?_ ?_
        · rw [fr2 12 0 15 rfl, hNN]
        · intro f gi'' q1 q2 q3 q4
          exact hf f gi'' (by rw [et, pLaw_succ hk, q1]; rfl) (Fr_trans (Fr_rf fr2) q2) (q3.trans (fr2 72 0 f rfl)) q4
        · intro l gi'' q1 q2 q3
          exact hok (C :: l) gi'' (by rw [et, pLaw_succ hk, q1]; rfl) (Fr_trans (Fr_rf fr2) q2) q3
    · by_cases hend : a = N
      · have hb1 : ax_wI gi 12 0 11 (-1) 12 0 18 = -1 := by simp [wI_at, hb]
        rw [b_M_reads_34]
        simp (disch := omega) only [c_M_sign, b_M_reads_40, b_M_reads_43, b_M_reads_73, b_M_reads_77, b_M_reads_80, b_M_reads_95, b_M_reads_107, c_takes_n _ hG ht hb ha haN (x := 100 + 59) (by decide) h59, c_M_fine_y _ _ _ _ hb, ha, hNN, hb, c_M_fine_y _ _ _ _ hb1, hend, n32_add, n32_mul, n32_lt, n32_le, n32_eq, n32_clamp, n32_inT, n32_div, n32_rem, n32_m1, n32_m1', n32_m1lt, n32_ltm1, n32_10, n32_01, Nat.not_lt_zero, Nat.lt_irrefl, Nat.mul_zero, Nat.zero_mul, Nat.zero_add, Nat.add_zero, Nat.reduceEqDiff, Nat.one_ne_zero, Nat.zero_ne_one, ax_psh_none, ax_psh_some, true_and, and_true, and_false, false_and, not_true_eq_false, not_false_eq_true, true_imp_iff, false_imp_iff, imp_self, or_true, true_or, or_false, false_or, and_self, ite_true, ite_false, if_true, if_false]
        refine hok [] _ ?_ (Fr_wI (Fr_refl _ _) rfl) ?_
        · simp only [tailP, hend, if_true]
        · simp [wI_at]
      · have hlt : a < N := by omega
        have hbad := TokM_bad ht haN
        have hbad1 : ¬ ax_wI (ax_wI gi 12 0 18 (gi 72 0 a)) 12 0 11 (gi 72 0 a) 12 0 18 = -1 := by simpa [wI_at] using hbad
        have ew : ax_wI gi 12 0 18 (gi 72 0 a) 12 0 18 = gi 72 0 a := by simp [wI_at]
        rw [b_M_reads_34]
        simp (disch := omega) only [c_M_sign, b_M_reads_40, b_M_reads_43, b_M_reads_73, b_M_reads_77, b_M_reads_80, b_M_reads_91, b_M_reads_95, b_M_reads_107, c_takes_n _ hG ht hb ha haN (x := 100 + 59) (by decide) h59, c_M_fine_y _ _ _ _ hb, ha, hNN, hlt, c_faults _ hG hb ha (by omega : a ≤ 400), ew, c_M_fine_n _ _ _ _ hbad1, n32_add, n32_mul, n32_lt, n32_le, n32_eq, n32_clamp, n32_inT, n32_div, n32_rem, n32_m1, n32_m1', n32_m1lt, n32_ltm1, n32_10, n32_01, Nat.not_lt_zero, Nat.lt_irrefl, Nat.mul_zero, Nat.zero_mul, Nat.zero_add, Nat.add_zero, Nat.reduceEqDiff, Nat.one_ne_zero, Nat.zero_ne_one, ax_psh_none, ax_psh_some, true_and, and_true, and_false, false_and, not_true_eq_false, not_false_eq_true, true_imp_iff, false_imp_iff, imp_self, or_true, true_or, or_false, false_or, and_self, ite_true, ite_false, if_true, if_false]
        refine hf a _ ?_ (Fr_wI (Fr_rf (Fr_wI (Fr_refl _ _) rfl)) rfl) ?_ haN
        · simp only [tailP, hend, h59, if_false]
        · simp [wI_at]
