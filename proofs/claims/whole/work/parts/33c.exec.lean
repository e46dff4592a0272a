/-! what is read can be gone through -/
def PX (it : PI Int) (need : Nat) : Prop := ∀ a p s a' p' k m, it a p s = .inr (a', p', k, m) → ∀ e, Ex e need k s (m e)
def PB (it : PI Bool) (need : Nat) : Prop := ∀ a p s a' p' k m, it a p s = .inr (a', p', k, m) → ∀ e, Ex e need k s ((m e).map bI)
theorem px_leaf {c v : Nat → Nat} {a p s a' p' : Nat} {k : List (Nat × Nat)} {m : (Nat → Int) → Option Int} (h : pLeaf c v a p = .inr (a', p', k, m)) (e : Nat → Int) : Ex e 1 k s (m e) := by
  by_cases hc : ((c a = 50 ∧ v a ≤ 1000) ∨ (7 ≤ c a ∧ c a ≤ 14)) ∧ p < 50
  · rcases hc with ⟨hc | hc, hp⟩
    · rw [pLeaf_n hc.1 hc.2 hp] at h
      simp only [Sum.inr.injEq, Prod.mk.injEq] at h
      obtain ⟨-, -, rfl, rfl⟩ := h
      intro d gi g Q q En t x2 o5 o6 o7 hx hcd hs hb ht ht64 hok hno
      exact x_num hx (by simp only [List.length_cons] at hs; omega) hcd.1 hcd.2.1 (by omega) hb ht (by omega) (fun gi' p5 p6 p7 st => hok _ gi' p5 p6 p7 rfl (Bd_n (by omega)) st)
    · rw [pLeaf_w hc hp] at h
      simp only [Sum.inr.injEq, Prod.mk.injEq] at h
      obtain ⟨-, -, rfl, rfl⟩ := h
      intro d gi g Q q En t x2 o5 o6 o7 hx hcd hs hb ht ht64 hok hno
      exact x_fact hx (by simp only [List.length_cons] at hs; omega) hcd.1 hcd.2.1 (by omega) hb ht (by omega) (fun gi' p5 p6 p7 st => hok _ gi' p5 p6 p7 rfl (hx.2.2.2.2.2 _ (by omega)).2 st)
  · rw [pLeaf_f hc] at h
    exact absurd h (by simp)
theorem op2_raw {kk : Nat} (hk : 2 ≤ kk ∧ kk ≤ 5) (x y : Option Int) : op2 (fun x y => limI (raw kk x y)) x y = op2 (opI kk) x y := by
  congr 1
  funext x y
  exact raw_op hk x y
theorem op2_cm {kk : Nat} (hk : 6 ≤ kk ∧ kk ≤ 8) (x y : Option Int) : op2 (fun x y => limI (raw kk x y)) x y = (op2 (fun x y => some (cmI kk x y)) x y).map bI := by
  match x, y with
  | none, _ => rfl
  | some _, none => rfl
  | some x, some y =>
    show limI (raw kk x y) = some (bI (cmI kk x y))
    rw [raw_cm hk, limI_y (Bd_01 _)]
    rfl
theorem px_loop {c : Nat → Nat} {o1 o2 k1 k2 need s : Nat} {it : PI Int} (hit : PX it need) (h1 : 2 ≤ k1 ∧ k1 ≤ 5) (h2 : 2 ≤ k2 ∧ k2 ≤ 5) (hneed : 1 ≤ need) : ∀ (n a p : Nat) (k : List (Nat × Nat)) (m : (Nat → Int) → Option Int) (a' p' : Nat) (k' : List (Nat × Nat)) (m' : (Nat → Int) → Option Int), (∀ e, Ex e (need + 1) k s (m e)) → pLoop c o1 o2 k1 k2 it s n a p k m = .inr (a', p', k', m') → ∀ e, Ex e (need + 1) k' s (m' e) := by
  intro n
  induction n with
  | zero =>
    intro a p k m a' p' k' m' hE h e
    simp only [pLoop, Sum.inr.injEq, Prod.mk.injEq] at h
    obtain ⟨-, -, rfl, rfl⟩ := h
    exact hE e
  | succ n ih =>
    intro a p k m a' p' k' m' hE h e
    by_cases c1 : c a = o1
    · match hk : it (a + 1) p (s + k.length) with
      | .inl f =>
        rw [pLoop_f (Or.inl c1) hk] at h
        exact absurd h (by simp)
      | .inr (a1, p1, kk, mm) =>
        rw [pLoop_1 c1 hk] at h
        refine ih _ _ _ _ _ _ _ _ (fun e => ?_) h e
        have := Ex_bin (kk := k1) (by omega) (hE e) (hit _ _ _ _ _ _ _ hk e) hneed
        rw [op2_raw h1] at this
        exact this
    · by_cases c2 : c a = o2
      · match hk : it (a + 1) p (s + k.length) with
        | .inl f =>
          rw [pLoop_f (Or.inr c2) hk] at h
          exact absurd h (by simp)
        | .inr (a1, p1, kk, mm) =>
          rw [pLoop_2 c1 c2 hk] at h
          refine ih _ _ _ _ _ _ _ _ (fun e => ?_) h e
          have := Ex_bin (kk := k2) (by omega) (hE e) (hit _ _ _ _ _ _ _ hk e) hneed
          rw [op2_raw h2] at this
          exact this
      · rw [pLoop_e c1 c2] at h
        simp only [Sum.inr.injEq, Prod.mk.injEq] at h
        obtain ⟨-, -, rfl, rfl⟩ := h
        exact hE e
theorem px_seq {c : Nat → Nat} {o1 o2 k1 k2 need : Nat} {it : PI Int} (hit : PX it need) (h1 : 2 ≤ k1 ∧ k1 ≤ 5) (h2 : 2 ≤ k2 ∧ k2 ≤ 5) (hneed : 1 ≤ need) : PX (pSeq c o1 o2 k1 k2 it) (need + 1) := by
  intro a p s a' p' k m h e
  match hk : it a p s with
  | .inl f =>
    simp only [pSeq, hk] at h
    exact absurd h (by simp)
  | .inr (a1, p1, kk, mm) =>
    simp only [pSeq, hk] at h
    exact px_loop hit h1 h2 hneed _ _ _ _ _ _ _ _ _ (fun e => Ex_mono (hit _ _ _ _ _ _ _ hk e) (by omega)) h e
theorem px_bra {c v : Nat → Nat} {need : Nat} {inn : PI Int} (hi : PX inn need) (hneed : 1 ≤ need) : PX (pBra c v inn) need := by
  intro a p s a' p' k m h e
  by_cases hb : c a = 191
  · match hk : inn (a + 1) p s with
    | .inl f =>
      simp only [pBra, hb, if_true, hk] at h
      exact absurd h (by simp)
    | .inr (a1, p1, kk, mm) =>
      by_cases hc : c a1 = 193
      · simp only [pBra, hb, if_true, hk, hc, Sum.inr.injEq, Prod.mk.injEq] at h
        obtain ⟨-, -, rfl, rfl⟩ := h
        exact hi _ _ _ _ _ _ _ hk e
      · simp only [pBra, hb, if_true, hk, hc, if_false] at h
        exact absurd h (by simp)
  · simp only [pBra, hb, if_false] at h
    exact Ex_mono (px_leaf h e) hneed
theorem px_part (c v : Nat → Nat) : ∀ r, PX (pPart c v r) (2 * r + 1)
  | 0 => px_bra (fun a p s a' p' k m h => absurd h (by simp)) (by omega)
  | r + 1 => px_bra (px_seq (px_seq (px_part c v r) (by omega) (by omega) (by omega)) (by omega) (by omega) (by omega)) (by omega)
theorem px_sum (c v : Nat → Nat) (r : Nat) : PX (pSum c v r) (2 * r + 3) := px_seq (px_seq (px_part c v r) (by omega) (by omega) (by omega)) (by omega) (by omega) (by omega)
theorem pb_cmp {c : Nat → Nat} {need : Nat} {it : PI Int} (hit : PX it need) (hneed : 1 ≤ need) : PB (pCmp c it) (need + 1) := by
  intro a p s a' p' k m h e
  match hk : it a p s with
  | .inl f =>
    simp only [pCmp, hk] at h
    exact absurd h (by simp)
  | .inr (a1, p1, k1, m1) =>
    by_cases hc : c a1 = 160 ∨ c a1 = 162 ∨ c a1 = 161
    · match hk2 : it (a1 + 1) p1 (s + k1.length) with
      | .inl f =>
        simp only [pCmp, hk, hc, if_true, hk2] at h
        exact absurd h (by simp)
      | .inr (a2, p2, k2, m2) =>
        simp only [pCmp, hk, hc, if_true, hk2, Sum.inr.injEq, Prod.mk.injEq] at h
        obtain ⟨-, -, rfl, rfl⟩ := h
        have hkk : 6 ≤ (if c a1 = 160 then 6 else if c a1 = 162 then 7 else 8) ∧ (if c a1 = 160 then 6 else if c a1 = 162 then 7 else 8) ≤ 8 := by
          split
          · omega
          · split <;> omega
        generalize (if c a1 = 160 then 6 else if c a1 = 162 then 7 else 8) = kk at *
        have := Ex_bin (kk := kk) (by omega) (Ex_mono (hit _ _ _ _ _ _ _ hk e) (Nat.le_succ _)) (hit _ _ _ _ _ _ _ hk2 e) hneed
        rw [op2_cm hkk] at this
        exact this
    · simp only [pCmp, hk, hc, if_false] at h
      exact absurd h (by simp)
theorem pb_not {c : Nat → Nat} {need : Nat} {cmp inn : PI Bool} (hc : PB cmp need) (hi : PB inn need) (hneed : 1 ≤ need) : PB (pNot c cmp inn) need := by
  have key : PB (pPar c cmp inn) need := by
    intro a p s a' p' k m h e
    by_cases hb : c a = 140
    · match hk : inn (a + 1) p s with
      | .inl f =>
        simp only [pPar, hb, if_true, hk] at h
        exact absurd h (by simp)
      | .inr (a1, p1, kk, mm) =>
        by_cases hc : c a1 = 141
        · simp only [pPar, hb, if_true, hk, hc, Sum.inr.injEq, Prod.mk.injEq] at h
          obtain ⟨-, -, rfl, rfl⟩ := h
          exact hi _ _ _ _ _ _ _ hk e
        · simp only [pPar, hb, if_true, hk, hc, if_false] at h
          exact absurd h (by simp)
    · simp only [pPar, hb, if_false] at h
      exact hc _ _ _ _ _ _ _ h e
  intro a p s a' p' k m h e
  unfold pNot at h
  match hk : pPar c cmp inn (pNots c 400 a false).1 p s with
  | .inl f =>
    rw [hk, pTurn_f rfl] at h
    exact absurd h (by simp)
  | .inr (a1, p1, kk, mm) =>
    rw [hk] at h
    have k1 := key _ _ _ _ _ _ _ hk e
    cases ht : (pNots c 400 a false).2 with
    | false =>
      rw [ht, pTurn_0 rfl] at h
      simp only [Sum.inr.injEq, Prod.mk.injEq] at h
      obtain ⟨-, -, rfl, rfl⟩ := h
      exact k1
    | true =>
      rw [ht, pTurn_1 rfl rfl] at h
      simp only [Sum.inr.injEq, Prod.mk.injEq] at h
      obtain ⟨-, -, rfl, rfl⟩ := h
      exact Ex_not k1 hneed
theorem pb_loop {c : Nat → Nat} {w kk need s : Nat} {sh : Bool} {it : PI Bool} (hit : PB it need) (hk : kk = 10 ∧ sh = true ∨ kk = 11 ∧ sh = false) (hneed : 1 ≤ need) : ∀ (n a p : Nat) (k : List (Nat × Nat)) (m : (Nat → Int) → Option Bool) (a' p' : Nat) (k' : List (Nat × Nat)) (m' : (Nat → Int) → Option Bool), (∀ e, Ex e need k s ((m e).map bI)) → pTLoop c w kk sh it s n a p k m = .inr (a', p', k', m') → ∀ e, Ex e need k' s ((m' e).map bI) := by
  intro n
  induction n with
  | zero =>
    intro a p k m a' p' k' m' hE h e
    simp only [pTLoop, Sum.inr.injEq, Prod.mk.injEq] at h
    obtain ⟨-, -, rfl, rfl⟩ := h
    exact hE e
  | succ n ih =>
    intro a p k m a' p' k' m' hE h e
    by_cases c1 : c a = w
    · match hk1 : it (a + 1) p (s + k.length + 1) with
      | .inl f =>
        rw [pTLoop_f c1 hk1] at h
        exact absurd h (by simp)
      | .inr (a1, p1, k1, mm) =>
        rw [pTLoop_y c1 hk1] at h
        refine ih _ _ _ _ _ _ _ _ (fun e => ?_) h e
        exact Ex_leap hk (hE e) (hit _ _ _ _ _ _ _ hk1 e) hneed
    · rw [pTLoop_e c1] at h
      simp only [Sum.inr.injEq, Prod.mk.injEq] at h
      obtain ⟨-, -, rfl, rfl⟩ := h
      exact hE e
theorem pb_seq {c : Nat → Nat} {w kk need : Nat} {sh : Bool} {it : PI Bool} (hit : PB it need) (hk : kk = 10 ∧ sh = true ∨ kk = 11 ∧ sh = false) (hneed : 1 ≤ need) : PB (pTSeq c w kk sh it) need := by
  intro a p s a' p' k m h e
  match hk1 : it a p s with
  | .inl f =>
    simp only [pTSeq, hk1] at h
    exact absurd h (by simp)
  | .inr (a1, p1, k1, mm) =>
    simp only [pTSeq, hk1] at h
    exact pb_loop hit hk hneed _ _ _ _ _ _ _ _ _ (fun e => hit _ _ _ _ _ _ _ hk1 e) h e
theorem PB_mono {it : PI Bool} {n n' : Nat} (h : PB it n) (hn : n ≤ n') : PB it n' := fun a p s a' p' k m hk e => Ex_mono (h a p s a' p' k m hk e) hn
theorem pb_plain (c v : Nat → Nat) : ∀ r, PB (pPlain c v r) (2 * r + 4)
  | 0 => pb_not (pb_cmp (px_sum c v 0) (by omega)) (fun a p s a' p' k m h => absurd h (by simp)) (by omega)
  | r + 1 => pb_not (pb_cmp (px_sum c v (r + 1)) (by omega)) (PB_mono (pb_seq (pb_seq (pb_plain c v r) (Or.inr ⟨rfl, rfl⟩) (by omega)) (Or.inl ⟨rfl, rfl⟩) (by omega)) (by omega)) (by omega)
theorem pb_test (c v : Nat → Nat) (r : Nat) : PB (pTest c v r) (2 * r + 4) := pb_seq (pb_seq (pb_plain c v r) (Or.inr ⟨rfl, rfl⟩) (by omega)) (Or.inl ⟨rfl, rfl⟩) (by omega)
/-! clauses -/
def ClX (C : PC) (s : Nat) (e : Nat → Int) : Prop := ∃ k k', C.2.2.1 = k ++ k' ∧ ((C.1 = true ∧ k = [] ∧ C.2.2.2.1 e = some 0) ∨ (C.1 = false ∧ Ex e 20 k s (C.2.2.2.1 e))) ∧ ((C.2.1 = false ∧ k' = [] ∧ C.2.2.2.2 e = some true) ∨ (C.2.1 = true ∧ Ex e 20 k' (s + k.length) ((C.2.2.2.2 e).map bI)))
theorem pIf_x {c v : Nat → Nat} {sp : Bool} {s a p a' p' : Nat} {k : List (Nat × Nat)} {m : (Nat → Int) → Option Int} {C : PC} (h : pIf c v sp s a p k m = .inr (a', p', C)) (e : Nat → Int) (hs : (sp = true ∧ k = [] ∧ m e = some 0) ∨ (sp = false ∧ Ex e 20 k s (m e))) : ClX C s e := by
  by_cases hi : c a = 3
  · match hk : pTest c v 8 (a + 1) p (s + k.length) with
    | .inl f =>
      simp only [pIf, hi, if_true, hk] at h
      exact absurd h (by simp)
    | .inr (a1, p1, k1, m1) =>
      simp only [pIf, hi, if_true, hk, Sum.inr.injEq, Prod.mk.injEq] at h
      obtain ⟨-, -, rfl⟩ := h
      exact ⟨k, k1, rfl, hs, Or.inr ⟨rfl, pb_test c v 8 _ _ _ _ _ _ _ hk e⟩⟩
  · simp only [pIf, hi, if_false, Sum.inr.injEq, Prod.mk.injEq] at h
    obtain ⟨-, -, rfl⟩ := h
    exact ⟨k, [], (List.append_nil k).symm, hs, Or.inl ⟨rfl, rfl, rfl⟩⟩
theorem pClause_x {c v : Nat → Nat} {a p s a' p' : Nat} {C : PC} (h : pClause c v a p s = .inr (a', p', C)) (e : Nat → Int) : ClX C s e := by
  by_cases h2 : c a = 2
  · simp only [pClause, h2, if_true] at h
    exact pIf_x h e (Or.inl ⟨rfl, rfl, rfl⟩)
  · by_cases h1 : c a = 1
    · match hk : pSum c v 8 (a + 1) p s with
      | .inl f =>
        simp [pClause, h1, hk] at h
      | .inr (a1, p1, k1, m1) =>
        simp only [pClause, h2, if_false, h1, if_true, hk] at h
        exact pIf_x h e (Or.inr ⟨rfl, Ex_mono (px_sum c v 8 _ _ _ _ _ _ _ hk e) (by omega)⟩)
    · simp only [pClause, h2, h1, if_false] at h
      exact absurd h (by simp)
def LsX (e : Nat → Int) : List PC → Nat → Prop
  | [], _ => True
  | C :: l, s => ClX C s e ∧ LsX e l (s + C.2.2.1.length)
theorem pLaw_x {c v : Nat → Nat} {N : Nat} (e : Nat → Int) : ∀ (n a p s : Nat) (l : List PC), pLaw c v N n a p s = .inr l → LsX e l s
  | 0, a, p, s, l, h => absurd h (by simp [pLaw])
  | n + 1, a, p, s, l, h => by
    match hk : pClause c v a p s with
    | .inl f =>
      rw [pLaw_f hk] at h
      exact absurd h (by simp)
    | .inr (a1, p1, C) =>
      rw [pLaw_succ hk] at h
      unfold tailP at h
      by_cases h1 : a1 = N
      · rw [if_pos h1] at h
        simp only [consP, Sum.inr.injEq] at h
        subst h
        exact ⟨pClause_x hk e, trivial⟩
      · rw [if_neg h1] at h
        by_cases h2 : c a1 = 159
        · rw [if_pos h2] at h
          match hk2 : pLaw c v N n (a1 + 1) p1 (s + C.2.2.1.length) with
          | .inl f =>
            rw [hk2] at h
            exact absurd h (by simp [consP])
          | .inr l2 =>
            rw [hk2] at h
            simp only [consP, Sum.inr.injEq] at h
            subst h
            exact ⟨pClause_x hk e, pLaw_x e n _ _ _ _ hk2⟩
        · rw [if_neg h2] at h
          exact absurd h (by simp [consP])
