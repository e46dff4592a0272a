/-! the class's reader: sums -/
theorem pLoop_1 {c : Nat → Nat} {o1 o2 k1 k2 s n a p a' p' : Nat} {it : PI Int} {k k' : List (Nat × Nat)} {m m' : (Nat → Int) → Option Int} (h : c a = o1) (hk : it (a + 1) p (s + k.length) = .inr (a', p', k', m')) : pLoop c o1 o2 k1 k2 it s (n + 1) a p k m = pLoop c o1 o2 k1 k2 it s n a' p' (k ++ (k' ++ [(k1, 0)])) (fun e => op2 (opI k1) (m e) (m' e)) := by
  show (if c a = o1 ∨ c a = o2 then _ else _) = _
  rw [if_pos (Or.inl h), hk, h]
  simp only [if_true]
theorem pLoop_2 {c : Nat → Nat} {o1 o2 k1 k2 s n a p a' p' : Nat} {it : PI Int} {k k' : List (Nat × Nat)} {m m' : (Nat → Int) → Option Int} (h0 : c a ≠ o1) (h : c a = o2) (hk : it (a + 1) p (s + k.length) = .inr (a', p', k', m')) : pLoop c o1 o2 k1 k2 it s (n + 1) a p k m = pLoop c o1 o2 k1 k2 it s n a' p' (k ++ (k' ++ [(k2, 0)])) (fun e => op2 (opI k2) (m e) (m' e)) := by
  show (if c a = o1 ∨ c a = o2 then _ else _) = _
  rw [if_pos (Or.inr h), hk]
  simp only [h0, if_false]
theorem pLoop_f {c : Nat → Nat} {o1 o2 k1 k2 s n a p f : Nat} {it : PI Int} {k : List (Nat × Nat)} {m : (Nat → Int) → Option Int} (h : c a = o1 ∨ c a = o2) (hk : it (a + 1) p (s + k.length) = .inl f) : pLoop c o1 o2 k1 k2 it s (n + 1) a p k m = .inl f := by
  show (if c a = o1 ∨ c a = o2 then _ else _) = _
  rw [if_pos h, hk]
theorem pLoop_e {c : Nat → Nat} {o1 o2 k1 k2 s n a p : Nat} {it : PI Int} {k : List (Nat × Nat)} {m : (Nat → Int) → Option Int} (h1 : c a ≠ o1) (h2 : c a ≠ o2) : pLoop c o1 o2 k1 k2 it s (n + 1) a p k m = .inr (a, p, k, m) := by
  show (if c a = o1 ∨ c a = o2 then _ else _) = _
  rw [if_neg (by rintro (h | h) <;> contradiction)]
theorem Code_emit {gi gi' : GI} {s x y : Nat} {k k' : List (Nat × Nat)} (h1 : CodeAt (gi 37 0) (gi 38 0) s k) (h2 : CodeAt (gi' 37 0) (gi' 38 0) (s + k.length) k') (h3 : ∀ j, j < s + k.length → gi' 37 0 j = gi 37 0 j ∧ gi' 38 0 j = gi 38 0 j) :
    CodeAt (emitG gi' (s + k.length + k'.length) (n32 x) (n32 y) 37 0) (emitG gi' (s + k.length + k'.length) (n32 x) (n32 y) 38 0) s (k ++ (k' ++ [(x, y)])) := by
  have e1 : ∀ j, emitG gi' (s + k.length + k'.length) (n32 x) (n32 y) 37 0 j = if j = s + k.length + k'.length then n32 x else gi' 37 0 j := by
    intro j
    unfold emitG
    simp [wI_at]
  have e2 : ∀ j, emitG gi' (s + k.length + k'.length) (n32 x) (n32 y) 38 0 j = if j = s + k.length + k'.length then n32 y else gi' 38 0 j := by
    intro j
    unfold emitG
    simp [wI_at]
  rw [CodeAt_append, CodeAt_append]
  refine ⟨CodeAt_congr h1 (fun j q1 q2 => ?_), CodeAt_congr h2 (fun j q1 q2 => ?_), ?_, ?_, trivial⟩
  · rw [e1, e2, if_neg (by omega), if_neg (by omega)]
    exact h3 j (by omega)
  · rw [e1, e2, if_neg (by omega), if_neg (by omega)]
    exact ⟨rfl, rfl⟩
  · rw [e1, if_pos rfl]
  · rw [e2, if_pos rfl]
theorem emitG_6 (gi : GI) (s : Nat) (x y : Int32) (j : Nat) : emitG gi s x y 6 0 j = if j = 8 then n32 (s + 1) else gi 6 0 j := by
  unfold emitG
  simp [wI_at]
theorem emitG_lt (gi : GI) {s : Nat} (x y : Int32) {j : Nat} (h : j < s) : emitG gi s x y 37 0 j = gi 37 0 j ∧ emitG gi s x y 38 0 j = gi 38 0 j := by
  unfold emitG
  have : ¬ j = s := by omega
  simp [wI_at, this]
theorem rd_readSum_loop {c v : Nat → Nat} {N r h : Nat} {it : PI Int} (hit : RdC c v N it m_Reader_readTerm h r) :
    ∀ n : Nat, n ≤ 400 → ∀ (d : Nat) (gi : GI) (g : AG) (Q : Option AV → AH → Prop) (a p s : Nat) (k : List (Nat × Nat)) (m : (Nat → Int) → Option Int) (o4 : Option AV), h ≤ d → 1 ≤ d → GOK g → TokC gi c v N → gi 6 0 4 = n32 a → gi 6 0 5 = n32 p → gi 6 0 8 = n32 (s + k.length) → a ≤ N → s + k.length ≤ a → p ≤ 50 → CodeAt (gi 37 0) (gi 38 0) s k →
    (∀ f gi', pLoop c 143 145 2 3 it s n a p k m = .inl f → Fr rdMod gi gi' → gi' 6 0 6 = gi 33 0 f → f ≤ N → (∃ s', s' ≤ 401 ∧ gi' 6 0 8 = n32 s') → Q (some (.inl (n32 0))) (gi', g)) →
    (∀ a' p' k' m' gi', pLoop c 143 145 2 3 it s n a p k m = .inr (a', p', k', m') → Fr rdMod gi gi' → gi' 6 0 4 = n32 a' → gi' 6 0 5 = n32 p' → gi' 6 0 8 = n32 (s + k'.length) → a + k'.length ≤ a' + k.length → a ≤ a' → a' ≤ N → p' ≤ 50 → gi' 6 0 6 = gi 6 0 6 → CodeAt (gi' 37 0) (gi' 38 0) s k' → (∀ j, j < s → gi' 37 0 j = gi 37 0 j ∧ gi' 38 0 j = gi 38 0 j) → Q (some (.inl (n32 1))) (gi', g)) →
    Runs d (m_Reader_readSum, 8, [some (.inr (.inr (some (6, 0)))), some (.inl (n32 (8 - r))), some (.inl (n32 1)), some (.inl (n32 (400 - n))), o4], []) (gi, g) Q := by
  intro n
  induction n with
  | zero =>
    intro _ d gi g Q a p s k m o4 hd hd1 hG ht ha hp hs haN hsa hp50 hc hf hok
    simp (disch := omega) only [b_Reader_readSum_8, b_Reader_readSum_73, Nat.sub_zero, n32_add, n32_mul, n32_lt, n32_le, n32_eq, n32_clamp, n32_inT, n32_div, n32_rem, n32_m1, n32_m1', n32_m1lt, n32_ltm1, n32_10, n32_01, Nat.not_lt_zero, Nat.lt_irrefl, Nat.mul_zero, Nat.zero_mul, Nat.zero_add, Nat.add_zero, Nat.reduceEqDiff, Nat.one_ne_zero, Nat.zero_ne_one, ax_psh_none, ax_psh_some, true_and, and_true, and_false, false_and, not_true_eq_false, not_false_eq_true, true_imp_iff, false_imp_iff, imp_self, or_true, true_or, or_false, false_or, and_self, ite_true, ite_false, if_true, if_false]
    exact hok a p k m gi rfl (Fr_refl _ _) ha hp hs (by omega) (by omega) haN hp50 rfl hc (fun _ _ => ⟨rfl, rfl⟩)
  | succ n ih =>
    intro hn d gi g Q a p s k m o4 hd hd1 hG ht ha hp hs haN hsa hp50 hc hf hok
    have hN : N ≤ 400 := ht.1
    have hlt : 400 - (n + 1) < 400 := by omega
    have hsucc : 400 - (n + 1) + 1 = 400 - n := by omega
    obtain ⟨d, rfl⟩ : ∃ d2, d = d2 + 1 := ⟨d - 1, by omega⟩
    have fr1 : Fr rdMod gi (ax_wI gi 6 0 4 (n32 (a + 1))) := Fr_wI (Fr_refl _ _) rfl
    have go : ∀ (x4 : Nat) (K : Nat), (x4 = 0 ∧ K = 3 ∨ x4 = 1 ∧ K = 2) → a + 1 ≤ N →
        (∀ f, it (a + 1) p (s + k.length) = .inl f → pLoop c 143 145 2 3 it s (n + 1) a p k m = .inl f) →
        (∀ a' p' k' m', it (a + 1) p (s + k.length) = .inr (a', p', k', m') → pLoop c 143 145 2 3 it s (n + 1) a p k m = pLoop c 143 145 2 3 it s n a' p' (k ++ (k' ++ [(K, 0)])) (fun e => op2 (opI K) (m e) (m' e))) →
        Runs (d + 1) (m_Reader_readSum, 45, [some (.inr (.inr (some (6, 0)))), some (.inl (n32 (8 - r))), some (.inl (n32 1)), some (.inl (n32 (400 - (n + 1)))), some (.inl (n32 x4))], []) (ax_wI gi 6 0 4 (n32 (a + 1)), g) Q := by
      intro x4 K hx haN1 e1 e2
      rw [b_Reader_readSum_45]
      apply hit (d + 1) _ g _ (a + 1) p (s + k.length) hd hG (TokC_fr ht fr1) (by simp [wI_at]) (by simp [wI_at, hp]) (by simp [wI_at, hs]) haN1 (by omega) hp50
      · intro f gi' hk hfr h6 hfN ⟨s', hs1, hs2⟩
        have hfr' := Fr_trans fr1 hfr
        have fin : Runs (d + 1) (m_Reader_readSum, 62, [some (.inr (.inr (some (6, 0)))), some (.inl (n32 (8 - r))), some (.inl (n32 0)), some (.inl (n32 (400 - (n + 1)))), some (.inl (n32 x4))], [.inl (n32 K), .inr (.inr (some (6, 0)))]) (gi', g) Q := by
          simp only [b_Reader_readSum_62, c_emit d hG hs2 hs1, ax_psh_none, ax_psh_some, true_and, and_true, and_false, false_and, not_true_eq_false, not_false_eq_true, true_imp_iff, false_imp_iff, imp_self, or_true, true_or, or_false, false_or, and_self, ite_true, ite_false, if_true, if_false, b_Reader_readSum_66, n32_add, hsucc]
          have z : Runs (d + 1) (m_Reader_readSum, 73, [some (.inr (.inr (some (6, 0)))), some (.inl (n32 (8 - r))), some (.inl (n32 0)), some (.inl (n32 (400 - n))), some (.inl (n32 x4))], []) (emitG gi' (min s' 400) (n32 K) (n32 0), g) Q := by
            simp only [b_Reader_readSum_73, ax_psh_none, ax_psh_some, true_and, and_true, and_false, false_and, not_true_eq_false, not_false_eq_true, true_imp_iff, false_imp_iff, imp_self, or_true, true_or, or_false, false_or, and_self, ite_true, ite_false, if_true, if_false]
            refine hf f _ (e1 f hk) (Fr_emit hfr') ?_ hfN ⟨min s' 400 + 1, by omega, ?_⟩
            · rw [emitG_6, if_neg (by decide), h6]
              exact fr1 33 0 f rfl
            · rw [emitG_6, if_pos rfl]
          rw [b_Reader_readSum_8, b_Reader_readSum_15]
          exact ⟨fun _ => ⟨fun _ => z, fun q => absurd rfl q⟩, fun _ => z⟩
        rcases hx with ⟨rfl, rfl⟩ | ⟨rfl, rfl⟩
        · simp only [ax_psh_none, ax_psh_some, true_and, and_true, and_false, false_and, not_true_eq_false, not_false_eq_true, true_imp_iff, false_imp_iff, imp_self, or_true, true_or, or_false, false_or, and_self, ite_true, ite_false, if_true, if_false, b_Reader_readSum_50, b_Reader_readSum_61]
          exact fin
        · simp only [ax_psh_none, ax_psh_some, true_and, and_true, and_false, false_and, not_true_eq_false, not_false_eq_true, true_imp_iff, false_imp_iff, imp_self, or_true, true_or, or_false, false_or, and_self, ite_true, ite_false, if_true, if_false, b_Reader_readSum_50, b_Reader_readSum_57, n32_10]
          exact fin
      · intro a' p' k' m' gi' hk hfr ha' hp' hs' hl1 hl2 haN' hp50' h66 hc' hlow
        have hfr' := Fr_trans fr1 hfr
        have h66 : gi' 6 0 6 = gi 6 0 6 := h66.trans (by simp [wI_at])
        have hlen : s + k.length + k'.length < 400 := by omega
        have fin : Runs (d + 1) (m_Reader_readSum, 62, [some (.inr (.inr (some (6, 0)))), some (.inl (n32 (8 - r))), some (.inl (n32 1)), some (.inl (n32 (400 - (n + 1)))), some (.inl (n32 x4))], [.inl (n32 K), .inr (.inr (some (6, 0)))]) (gi', g) Q := by
          simp only [b_Reader_readSum_62, c_emit d hG hs' (by omega), ax_psh_none, ax_psh_some, true_and, and_true, and_false, false_and, not_true_eq_false, not_false_eq_true, true_imp_iff, false_imp_iff, imp_self, or_true, true_or, or_false, false_or, and_self, ite_true, ite_false, if_true, if_false, b_Reader_readSum_66, n32_add, hsucc, Nat.min_eq_left (Nat.le_of_lt hlen)]
          have hlow' : ∀ j, j < s + k.length → gi' 37 0 j = gi 37 0 j ∧ gi' 38 0 j = gi 38 0 j := hlow
          apply ih (by omega) (d + 1) _ g Q a' p' s (k ++ (k' ++ [(K, 0)])) (fun e => op2 (opI K) (m e) (m' e)) _ hd hd1 hG (TokC_fr ht (Fr_emit hfr')) (by rw [emitG_6, if_neg (by decide), ha']) (by rw [emitG_6, if_neg (by decide), hp']) (by rw [emitG_6, if_pos rfl]; simp only [List.length_append, List.length_cons, List.length_nil]; congr 1; omega) haN' (by simp only [List.length_append, List.length_cons, List.length_nil]; omega) hp50' (Code_emit hc hc' hlow')
          · intro f gi'' q1 q2 q3 q4 q5
            refine hf f gi'' ((e2 _ _ _ _ hk).trans q1) (Fr_trans (Fr_emit hfr') q2) (q3.trans ?_) q4 q5
            exact Fr_emit (x := n32 K) (y := n32 0) (s := s + k.length + k'.length) hfr' 33 0 f rfl
          · intro a'' p'' k'' m'' gi'' q1 q2 q3 q4 q5 q6 q7 q8 q9 q9b q10 q11
            simp only [List.length_append, List.length_cons, List.length_nil] at q6
            refine hok a'' p'' k'' m'' gi'' ((e2 _ _ _ _ hk).trans q1) (Fr_trans (Fr_emit hfr') q2) q3 q4 q5 (by omega) (by omega) q8 q9 (q9b.trans ((emitG_6 _ _ _ _ 6).trans ((if_neg (by decide)).trans h66))) q10 (fun j hj => ?_)
            have w1 := q11 j hj
            have w2 := emitG_lt gi' (s := s + k.length + k'.length) (n32 K) (n32 0) (j := j) (by omega)
            have w3 := hlow' j (by omega)
            exact ⟨w1.1.trans (w2.1.trans w3.1), w1.2.trans (w2.2.trans w3.2)⟩
        rcases hx with ⟨rfl, rfl⟩ | ⟨rfl, rfl⟩
        · simp only [ax_psh_none, ax_psh_some, true_and, and_true, and_false, false_and, not_true_eq_false, not_false_eq_true, true_imp_iff, false_imp_iff, imp_self, or_true, true_or, or_false, false_or, and_self, ite_true, ite_false, if_true, if_false, b_Reader_readSum_50, b_Reader_readSum_61]
          exact fin
        · simp only [ax_psh_none, ax_psh_some, true_and, and_true, and_false, false_and, not_true_eq_false, not_false_eq_true, true_imp_iff, false_imp_iff, imp_self, or_true, true_or, or_false, false_or, and_self, ite_true, ite_false, if_true, if_false, b_Reader_readSum_50, b_Reader_readSum_57, n32_10]
          exact fin
    have lt_of : ∀ x, c a = x → x ≠ 0 → a + 1 ≤ N := fun x hx h0 => by
      rcases Nat.lt_or_ge a N with e | e
      · exact e
      · exact absurd ((ht.2.1 a e).symm.trans hx).symm h0
    by_cases h1 : c a = 143
    · simp (disch := omega) only [b_Reader_readSum_8, b_Reader_readSum_15, b_Reader_readSum_19, b_Reader_readSum_26, hlt, c_acc_y d hG ht ha haN (ch := 43) h1, n32_add, n32_mul, n32_lt, n32_le, n32_eq, n32_clamp, n32_inT, n32_div, n32_rem, n32_m1, n32_m1', n32_m1lt, n32_ltm1, n32_10, n32_01, Nat.not_lt_zero, Nat.lt_irrefl, Nat.mul_zero, Nat.zero_mul, Nat.zero_add, Nat.add_zero, Nat.reduceEqDiff, Nat.one_ne_zero, Nat.zero_ne_one, ax_psh_none, ax_psh_some, true_and, and_true, and_false, false_and, not_true_eq_false, not_false_eq_true, true_imp_iff, false_imp_iff, imp_self, or_true, true_or, or_false, false_or, and_self, ite_true, ite_false, if_true, if_false]
      exact go 1 2 (Or.inr ⟨rfl, rfl⟩) (lt_of _ h1 (by decide)) (fun f hk => pLoop_f (Or.inl h1) hk) (fun a' p' k' m' hk => pLoop_1 h1 hk)
    · by_cases h2 : c a = 145
      · simp (disch := omega) only [b_Reader_readSum_8, b_Reader_readSum_15, b_Reader_readSum_19, b_Reader_readSum_26, b_Reader_readSum_33, b_Reader_readSum_40, hlt, c_acc_n d hG ht ha haN (ch := 43) (by decide) h1, c_acc_y d hG ht ha haN (ch := 45) h2, n32_add, n32_mul, n32_lt, n32_le, n32_eq, n32_clamp, n32_inT, n32_div, n32_rem, n32_m1, n32_m1', n32_m1lt, n32_ltm1, n32_10, n32_01, Nat.not_lt_zero, Nat.lt_irrefl, Nat.mul_zero, Nat.zero_mul, Nat.zero_add, Nat.add_zero, Nat.reduceEqDiff, Nat.one_ne_zero, Nat.zero_ne_one, ax_psh_none, ax_psh_some, true_and, and_true, and_false, false_and, not_true_eq_false, not_false_eq_true, true_imp_iff, false_imp_iff, imp_self, or_true, true_or, or_false, false_or, and_self, ite_true, ite_false, if_true, if_false]
        exact go 0 3 (Or.inl ⟨rfl, rfl⟩) (lt_of _ h2 (by decide)) (fun f hk => pLoop_f (Or.inr h2) hk) (fun a' p' k' m' hk => pLoop_2 h1 h2 hk)
      · simp (disch := omega) only [b_Reader_readSum_8, b_Reader_readSum_15, b_Reader_readSum_19, b_Reader_readSum_26, b_Reader_readSum_33, b_Reader_readSum_40, b_Reader_readSum_43, hlt, c_acc_n d hG ht ha haN (ch := 43) (by decide) h1, c_acc_n d hG ht ha haN (ch := 45) (by decide) h2, n32_add, n32_mul, n32_lt, n32_le, n32_eq, n32_clamp, n32_inT, n32_div, n32_rem, n32_m1, n32_m1', n32_m1lt, n32_ltm1, n32_10, n32_01, Nat.not_lt_zero, Nat.lt_irrefl, Nat.mul_zero, Nat.zero_mul, Nat.zero_add, Nat.add_zero, Nat.reduceEqDiff, Nat.one_ne_zero, Nat.zero_ne_one, ax_psh_none, ax_psh_some, true_and, and_true, and_false, false_and, not_true_eq_false, not_false_eq_true, true_imp_iff, false_imp_iff, imp_self, or_true, true_or, or_false, false_or, and_self, ite_true, ite_false, if_true, if_false]
        exact hok a p k m gi (pLoop_e h1 h2) (Fr_refl _ _) ha hp hs (by omega) (by omega) haN hp50 rfl hc (fun _ _ => ⟨rfl, rfl⟩)
theorem rd_readSum {c v : Nat → Nat} {N r h : Nat} {it : PI Int} (hh : 1 ≤ h) (hit : RdC c v N it m_Reader_readTerm h r) : RdC c v N (pSeq c 143 145 2 3 it) m_Reader_readSum (h + 1) r := by
  intro D gi g Q a p s hD hG ht ha hp hs haN hsa hp50 hf hok
  obtain ⟨d, rfl⟩ : ∃ d2, D = d2 + 1 := ⟨D - 1, by omega⟩
  rw [e_Reader_readSum, b_Reader_readSum_0]
  apply hit d gi g _ a p s (by omega) hG ht ha hp hs haN hsa hp50
  · intro f gi' hk hfr h6 hfN hs'
    have z : Runs d (m_Reader_readSum, 73, [some (.inr (.inr (some (6, 0)))), some (.inl (n32 (8 - r))), some (.inl (n32 0)), some (.inl (n32 0)), none], []) (gi', g) Q := by
      simp only [b_Reader_readSum_73, ax_psh_none, ax_psh_some, true_and, and_true, and_false, false_and, not_true_eq_false, not_false_eq_true, true_imp_iff, false_imp_iff, imp_self, or_true, true_or, or_false, false_or, and_self, ite_true, ite_false, if_true, if_false]
      exact hf f gi' (by simp only [pSeq, hk]) hfr h6 hfN hs'
    simp only [ax_psh_none, ax_psh_some, true_and, and_true, and_false, false_and, not_true_eq_false, not_false_eq_true, true_imp_iff, false_imp_iff, imp_self, or_true, true_or, or_false, false_or, and_self, ite_true, ite_false, if_true, if_false, b_Reader_readSum_5]
    rw [b_Reader_readSum_8, b_Reader_readSum_15]
    exact ⟨fun _ => ⟨fun _ => z, fun q => absurd rfl q⟩, fun _ => z⟩
  · intro a' p' k m gi' hk hfr ha' hp' hs' hl1 hl2 haN' hp50' h66 hc' hlow
    simp only [ax_psh_none, ax_psh_some, true_and, and_true, and_false, false_and, not_true_eq_false, not_false_eq_true, true_imp_iff, false_imp_iff, imp_self, or_true, true_or, or_false, false_or, and_self, ite_true, ite_false, if_true, if_false, b_Reader_readSum_5]
    apply rd_readSum_loop hit 400 (by omega) d gi' g Q a' p' s k m none (by omega) (by omega) hG (TokC_fr ht hfr) ha' hp' hs' haN' (by omega) hp50' hc'
    · intro f gi'' q1 q2 q3 q4 q5
      exact hf f gi'' (by simp only [pSeq, hk]; exact q1) (Fr_trans hfr q2) (q3.trans (hfr 33 0 f rfl)) q4 q5
    · intro a'' p'' k'' m'' gi'' q1 q2 q3 q4 q5 q6 q7 q8 q9 q9b q10 q11
      exact hok a'' p'' k'' m'' gi'' (by simp only [pSeq, hk]; exact q1) (Fr_trans hfr q2) q3 q4 q5 (by omega) (by omega) q8 q9 (q9b.trans h66) q10 (fun j hj => ⟨(q11 j hj).1.trans (hlow j hj).1, (q11 j hj).2.trans (hlow j hj).2⟩)
theorem rd_readTerm_loop {c v : Nat → Nat} {N r h : Nat} {it : PI Int} (hit : RdC c v N it m_Reader_readPart h r) :
    ∀ n : Nat, n ≤ 400 → ∀ (d : Nat) (gi : GI) (g : AG) (Q : Option AV → AH → Prop) (a p s : Nat) (k : List (Nat × Nat)) (m : (Nat → Int) → Option Int) (o4 : Option AV), h ≤ d → 1 ≤ d → GOK g → TokC gi c v N → gi 6 0 4 = n32 a → gi 6 0 5 = n32 p → gi 6 0 8 = n32 (s + k.length) → a ≤ N → s + k.length ≤ a → p ≤ 50 → CodeAt (gi 37 0) (gi 38 0) s k →
    (∀ f gi', pLoop c 142 147 4 5 it s n a p k m = .inl f → Fr rdMod gi gi' → gi' 6 0 6 = gi 33 0 f → f ≤ N → (∃ s', s' ≤ 401 ∧ gi' 6 0 8 = n32 s') → Q (some (.inl (n32 0))) (gi', g)) →
    (∀ a' p' k' m' gi', pLoop c 142 147 4 5 it s n a p k m = .inr (a', p', k', m') → Fr rdMod gi gi' → gi' 6 0 4 = n32 a' → gi' 6 0 5 = n32 p' → gi' 6 0 8 = n32 (s + k'.length) → a + k'.length ≤ a' + k.length → a ≤ a' → a' ≤ N → p' ≤ 50 → gi' 6 0 6 = gi 6 0 6 → CodeAt (gi' 37 0) (gi' 38 0) s k' → (∀ j, j < s → gi' 37 0 j = gi 37 0 j ∧ gi' 38 0 j = gi 38 0 j) → Q (some (.inl (n32 1))) (gi', g)) →
    Runs d (m_Reader_readTerm, 8, [some (.inr (.inr (some (6, 0)))), some (.inl (n32 (8 - r))), some (.inl (n32 1)), some (.inl (n32 (400 - n))), o4], []) (gi, g) Q := by
  intro n
  induction n with
  | zero =>
    intro _ d gi g Q a p s k m o4 hd hd1 hG ht ha hp hs haN hsa hp50 hc hf hok
    simp (disch := omega) only [b_Reader_readTerm_8, b_Reader_readTerm_73, Nat.sub_zero, n32_add, n32_mul, n32_lt, n32_le, n32_eq, n32_clamp, n32_inT, n32_div, n32_rem, n32_m1, n32_m1', n32_m1lt, n32_ltm1, n32_10, n32_01, Nat.not_lt_zero, Nat.lt_irrefl, Nat.mul_zero, Nat.zero_mul, Nat.zero_add, Nat.add_zero, Nat.reduceEqDiff, Nat.one_ne_zero, Nat.zero_ne_one, ax_psh_none, ax_psh_some, true_and, and_true, and_false, false_and, not_true_eq_false, not_false_eq_true, true_imp_iff, false_imp_iff, imp_self, or_true, true_or, or_false, false_or, and_self, ite_true, ite_false, if_true, if_false]
    exact hok a p k m gi rfl (Fr_refl _ _) ha hp hs (by omega) (by omega) haN hp50 rfl hc (fun _ _ => ⟨rfl, rfl⟩)
  | succ n ih =>
    intro hn d gi g Q a p s k m o4 hd hd1 hG ht ha hp hs haN hsa hp50 hc hf hok
    have hN : N ≤ 400 := ht.1
    have hlt : 400 - (n + 1) < 400 := by omega
    have hsucc : 400 - (n + 1) + 1 = 400 - n := by omega
    obtain ⟨d, rfl⟩ : ∃ d2, d = d2 + 1 := ⟨d - 1, by omega⟩
    have fr1 : Fr rdMod gi (ax_wI gi 6 0 4 (n32 (a + 1))) := Fr_wI (Fr_refl _ _) rfl
    have go : ∀ (x4 : Nat) (K : Nat), (x4 = 0 ∧ K = 5 ∨ x4 = 1 ∧ K = 4) → a + 1 ≤ N →
        (∀ f, it (a + 1) p (s + k.length) = .inl f → pLoop c 142 147 4 5 it s (n + 1) a p k m = .inl f) →
        (∀ a' p' k' m', it (a + 1) p (s + k.length) = .inr (a', p', k', m') → pLoop c 142 147 4 5 it s (n + 1) a p k m = pLoop c 142 147 4 5 it s n a' p' (k ++ (k' ++ [(K, 0)])) (fun e => op2 (opI K) (m e) (m' e))) →
        Runs (d + 1) (m_Reader_readTerm, 45, [some (.inr (.inr (some (6, 0)))), some (.inl (n32 (8 - r))), some (.inl (n32 1)), some (.inl (n32 (400 - (n + 1)))), some (.inl (n32 x4))], []) (ax_wI gi 6 0 4 (n32 (a + 1)), g) Q := by
      intro x4 K hx haN1 e1 e2
      rw [b_Reader_readTerm_45]
      apply hit (d + 1) _ g _ (a + 1) p (s + k.length) hd hG (TokC_fr ht fr1) (by simp [wI_at]) (by simp [wI_at, hp]) (by simp [wI_at, hs]) haN1 (by omega) hp50
      · intro f gi' hk hfr h6 hfN ⟨s', hs1, hs2⟩
        have hfr' := Fr_trans fr1 hfr
        have fin : Runs (d + 1) (m_Reader_readTerm, 62, [some (.inr (.inr (some (6, 0)))), some (.inl (n32 (8 - r))), some (.inl (n32 0)), some (.inl (n32 (400 - (n + 1)))), some (.inl (n32 x4))], [.inl (n32 K), .inr (.inr (some (6, 0)))]) (gi', g) Q := by
          simp only [b_Reader_readTerm_62, c_emit d hG hs2 hs1, ax_psh_none, ax_psh_some, true_and, and_true, and_false, false_and, not_true_eq_false, not_false_eq_true, true_imp_iff, false_imp_iff, imp_self, or_true, true_or, or_false, false_or, and_self, ite_true, ite_false, if_true, if_false, b_Reader_readTerm_66, n32_add, hsucc]
          have z : Runs (d + 1) (m_Reader_readTerm, 73, [some (.inr (.inr (some (6, 0)))), some (.inl (n32 (8 - r))), some (.inl (n32 0)), some (.inl (n32 (400 - n))), some (.inl (n32 x4))], []) (emitG gi' (min s' 400) (n32 K) (n32 0), g) Q := by
            simp only [b_Reader_readTerm_73, ax_psh_none, ax_psh_some, true_and, and_true, and_false, false_and, not_true_eq_false, not_false_eq_true, true_imp_iff, false_imp_iff, imp_self, or_true, true_or, or_false, false_or, and_self, ite_true, ite_false, if_true, if_false]
            refine hf f _ (e1 f hk) (Fr_emit hfr') ?_ hfN ⟨min s' 400 + 1, by omega, ?_⟩
            · rw [emitG_6, if_neg (by decide), h6]
              exact fr1 33 0 f rfl
            · rw [emitG_6, if_pos rfl]
          rw [b_Reader_readTerm_8, b_Reader_readTerm_15]
          exact ⟨fun _ => ⟨fun _ => z, fun q => absurd rfl q⟩, fun _ => z⟩
        rcases hx with ⟨rfl, rfl⟩ | ⟨rfl, rfl⟩
        · simp only [ax_psh_none, ax_psh_some, true_and, and_true, and_false, false_and, not_true_eq_false, not_false_eq_true, true_imp_iff, false_imp_iff, imp_self, or_true, true_or, or_false, false_or, and_self, ite_true, ite_false, if_true, if_false, b_Reader_readTerm_50, b_Reader_readTerm_61]
          exact fin
        · simp only [ax_psh_none, ax_psh_some, true_and, and_true, and_false, false_and, not_true_eq_false, not_false_eq_true, true_imp_iff, false_imp_iff, imp_self, or_true, true_or, or_false, false_or, and_self, ite_true, ite_false, if_true, if_false, b_Reader_readTerm_50, b_Reader_readTerm_57, n32_10]
          exact fin
      · intro a' p' k' m' gi' hk hfr ha' hp' hs' hl1 hl2 haN' hp50' h66 hc' hlow
        have hfr' := Fr_trans fr1 hfr
        have h66 : gi' 6 0 6 = gi 6 0 6 := h66.trans (by simp [wI_at])
        have hlen : s + k.length + k'.length < 400 := by omega
        have fin : Runs (d + 1) (m_Reader_readTerm, 62, [some (.inr (.inr (some (6, 0)))), some (.inl (n32 (8 - r))), some (.inl (n32 1)), some (.inl (n32 (400 - (n + 1)))), some (.inl (n32 x4))], [.inl (n32 K), .inr (.inr (some (6, 0)))]) (gi', g) Q := by
          simp only [b_Reader_readTerm_62, c_emit d hG hs' (by omega), ax_psh_none, ax_psh_some, true_and, and_true, and_false, false_and, not_true_eq_false, not_false_eq_true, true_imp_iff, false_imp_iff, imp_self, or_true, true_or, or_false, false_or, and_self, ite_true, ite_false, if_true, if_false, b_Reader_readTerm_66, n32_add, hsucc, Nat.min_eq_left (Nat.le_of_lt hlen)]
          have hlow' : ∀ j, j < s + k.length → gi' 37 0 j = gi 37 0 j ∧ gi' 38 0 j = gi 38 0 j := hlow
          apply ih (by omega) (d + 1) _ g Q a' p' s (k ++ (k' ++ [(K, 0)])) (fun e => op2 (opI K) (m e) (m' e)) _ hd hd1 hG (TokC_fr ht (Fr_emit hfr')) (by rw [emitG_6, if_neg (by decide), ha']) (by rw [emitG_6, if_neg (by decide), hp']) (by rw [emitG_6, if_pos rfl]; simp only [List.length_append, List.length_cons, List.length_nil]; congr 1; omega) haN' (by simp only [List.length_append, List.length_cons, List.length_nil]; omega) hp50' (Code_emit hc hc' hlow')
          · intro f gi'' q1 q2 q3 q4 q5
            refine hf f gi'' ((e2 _ _ _ _ hk).trans q1) (Fr_trans (Fr_emit hfr') q2) (q3.trans ?_) q4 q5
            exact Fr_emit (x := n32 K) (y := n32 0) (s := s + k.length + k'.length) hfr' 33 0 f rfl
          · intro a'' p'' k'' m'' gi'' q1 q2 q3 q4 q5 q6 q7 q8 q9 q9b q10 q11
            simp only [List.length_append, List.length_cons, List.length_nil] at q6
            refine hok a'' p'' k'' m'' gi'' ((e2 _ _ _ _ hk).trans q1) (Fr_trans (Fr_emit hfr') q2) q3 q4 q5 (by omega) (by omega) q8 q9 (q9b.trans ((emitG_6 _ _ _ _ 6).trans ((if_neg (by decide)).trans h66))) q10 (fun j hj => ?_)
            have w1 := q11 j hj
            have w2 := emitG_lt gi' (s := s + k.length + k'.length) (n32 K) (n32 0) (j := j) (by omega)
            have w3 := hlow' j (by omega)
            exact ⟨w1.1.trans (w2.1.trans w3.1), w1.2.trans (w2.2.trans w3.2)⟩
        rcases hx with ⟨rfl, rfl⟩ | ⟨rfl, rfl⟩
        · simp only [ax_psh_none, ax_psh_some, true_and, and_true, and_false, false_and, not_true_eq_false, not_false_eq_true, true_imp_iff, false_imp_iff, imp_self, or_true, true_or, or_false, false_or, and_self, ite_true, ite_false, if_true, if_false, b_Reader_readTerm_50, b_Reader_readTerm_61]
          exact fin
        · simp only [ax_psh_none, ax_psh_some, true_and, and_true, and_false, false_and, not_true_eq_false, not_false_eq_true, true_imp_iff, false_imp_iff, imp_self, or_true, true_or, or_false, false_or, and_self, ite_true, ite_false, if_true, if_false, b_Reader_readTerm_50, b_Reader_readTerm_57, n32_10]
          exact fin
    have lt_of : ∀ x, c a = x → x ≠ 0 → a + 1 ≤ N := fun x hx h0 => by
      rcases Nat.lt_or_ge a N with e | e
      · exact e
      · exact absurd ((ht.2.1 a e).symm.trans hx).symm h0
    by_cases h1 : c a = 142
    · simp (disch := omega) only [b_Reader_readTerm_8, b_Reader_readTerm_15, b_Reader_readTerm_19, b_Reader_readTerm_26, hlt, c_acc_y d hG ht ha haN (ch := 42) h1, n32_add, n32_mul, n32_lt, n32_le, n32_eq, n32_clamp, n32_inT, n32_div, n32_rem, n32_m1, n32_m1', n32_m1lt, n32_ltm1, n32_10, n32_01, Nat.not_lt_zero, Nat.lt_irrefl, Nat.mul_zero, Nat.zero_mul, Nat.zero_add, Nat.add_zero, Nat.reduceEqDiff, Nat.one_ne_zero, Nat.zero_ne_one, ax_psh_none, ax_psh_some, true_and, and_true, and_false, false_and, not_true_eq_false, not_false_eq_true, true_imp_iff, false_imp_iff, imp_self, or_true, true_or, or_false, false_or, and_self, ite_true, ite_false, if_true, if_false]
      exact go 1 4 (Or.inr ⟨rfl, rfl⟩) (lt_of _ h1 (by decide)) (fun f hk => pLoop_f (Or.inl h1) hk) (fun a' p' k' m' hk => pLoop_1 h1 hk)
    · by_cases h2 : c a = 147
      · simp (disch := omega) only [b_Reader_readTerm_8, b_Reader_readTerm_15, b_Reader_readTerm_19, b_Reader_readTerm_26, b_Reader_readTerm_33, b_Reader_readTerm_40, hlt, c_acc_n d hG ht ha haN (ch := 42) (by decide) h1, c_acc_y d hG ht ha haN (ch := 47) h2, n32_add, n32_mul, n32_lt, n32_le, n32_eq, n32_clamp, n32_inT, n32_div, n32_rem, n32_m1, n32_m1', n32_m1lt, n32_ltm1, n32_10, n32_01, Nat.not_lt_zero, Nat.lt_irrefl, Nat.mul_zero, Nat.zero_mul, Nat.zero_add, Nat.add_zero, Nat.reduceEqDiff, Nat.one_ne_zero, Nat.zero_ne_one, ax_psh_none, ax_psh_some, true_and, and_true, and_false, false_and, not_true_eq_false, not_false_eq_true, true_imp_iff, false_imp_iff, imp_self, or_true, true_or, or_false, false_or, and_self, ite_true, ite_false, if_true, if_false]
        exact go 0 5 (Or.inl ⟨rfl, rfl⟩) (lt_of _ h2 (by decide)) (fun f hk => pLoop_f (Or.inr h2) hk) (fun a' p' k' m' hk => pLoop_2 h1 h2 hk)
      · simp (disch := omega) only [b_Reader_readTerm_8, b_Reader_readTerm_15, b_Reader_readTerm_19, b_Reader_readTerm_26, b_Reader_readTerm_33, b_Reader_readTerm_40, b_Reader_readTerm_43, hlt, c_acc_n d hG ht ha haN (ch := 42) (by decide) h1, c_acc_n d hG ht ha haN (ch := 47) (by decide) h2, n32_add, n32_mul, n32_lt, n32_le, n32_eq, n32_clamp, n32_inT, n32_div, n32_rem, n32_m1, n32_m1', n32_m1lt, n32_ltm1, n32_10, n32_01, Nat.not_lt_zero, Nat.lt_irrefl, Nat.mul_zero, Nat.zero_mul, Nat.zero_add, Nat.add_zero, Nat.reduceEqDiff, Nat.one_ne_zero, Nat.zero_ne_one, ax_psh_none, ax_psh_some, true_and, and_true, and_false, false_and, not_true_eq_false, not_false_eq_true, true_imp_iff, false_imp_iff, imp_self, or_true, true_or, or_false, false_or, and_self, ite_true, ite_false, if_true, if_false]
        exact hok a p k m gi (pLoop_e h1 h2) (Fr_refl _ _) ha hp hs (by omega) (by omega) haN hp50 rfl hc (fun _ _ => ⟨rfl, rfl⟩)
theorem rd_readTerm {c v : Nat → Nat} {N r h : Nat} {it : PI Int} (hh : 1 ≤ h) (hit : RdC c v N it m_Reader_readPart h r) : RdC c v N (pSeq c 142 147 4 5 it) m_Reader_readTerm (h + 1) r := by
  intro D gi g Q a p s hD hG ht ha hp hs haN hsa hp50 hf hok
  obtain ⟨d, rfl⟩ : ∃ d2, D = d2 + 1 := ⟨D - 1, by omega⟩
  rw [e_Reader_readTerm, b_Reader_readTerm_0]
  apply hit d gi g _ a p s (by omega) hG ht ha hp hs haN hsa hp50
  · intro f gi' hk hfr h6 hfN hs'
    have z : Runs d (m_Reader_readTerm, 73, [some (.inr (.inr (some (6, 0)))), some (.inl (n32 (8 - r))), some (.inl (n32 0)), some (.inl (n32 0)), none], []) (gi', g) Q := by
      simp only [b_Reader_readTerm_73, ax_psh_none, ax_psh_some, true_and, and_true, and_false, false_and, not_true_eq_false, not_false_eq_true, true_imp_iff, false_imp_iff, imp_self, or_true, true_or, or_false, false_or, and_self, ite_true, ite_false, if_true, if_false]
      exact hf f gi' (by simp only [pSeq, hk]) hfr h6 hfN hs'
    simp only [ax_psh_none, ax_psh_some, true_and, and_true, and_false, false_and, not_true_eq_false, not_false_eq_true, true_imp_iff, false_imp_iff, imp_self, or_true, true_or, or_false, false_or, and_self, ite_true, ite_false, if_true, if_false, b_Reader_readTerm_5]
    rw [b_Reader_readTerm_8, b_Reader_readTerm_15]
    exact ⟨fun _ => ⟨fun _ => z, fun q => absurd rfl q⟩, fun _ => z⟩
  · intro a' p' k m gi' hk hfr ha' hp' hs' hl1 hl2 haN' hp50' h66 hc' hlow
    simp only [ax_psh_none, ax_psh_some, true_and, and_true, and_false, false_and, not_true_eq_false, not_false_eq_true, true_imp_iff, false_imp_iff, imp_self, or_true, true_or, or_false, false_or, and_self, ite_true, ite_false, if_true, if_false, b_Reader_readTerm_5]
    apply rd_readTerm_loop hit 400 (by omega) d gi' g Q a' p' s k m none (by omega) (by omega) hG (TokC_fr ht hfr) ha' hp' hs' haN' (by omega) hp50' hc'
    · intro f gi'' q1 q2 q3 q4 q5
      exact hf f gi'' (by simp only [pSeq, hk]; exact q1) (Fr_trans hfr q2) (q3.trans (hfr 33 0 f rfl)) q4 q5
    · intro a'' p'' k'' m'' gi'' q1 q2 q3 q4 q5 q6 q7 q8 q9 q9b q10 q11
      exact hok a'' p'' k'' m'' gi'' (by simp only [pSeq, hk]; exact q1) (Fr_trans hfr q2) q3 q4 q5 (by omega) (by omega) q8 q9 (q9b.trans h66) q10 (fun j hj => ⟨(q11 j hj).1.trans (hlow j hj).1, (q11 j hj).2.trans (hlow j hj).2⟩)
