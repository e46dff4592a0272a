/-! ... and no run, no call -/
theorem ax_code_big {m : Nat} (h : 256 ≤ m) : ax_code m = [] := by
  have hk : ∀ k, k ≤ 256 → Nat.blt m k = false := fun k hk => by
    cases hz : Nat.blt m k with
    | false => rfl
    | true =>
      have : m < k := Nat.blt_eq.mp hz
      omega
  have hb : Nat.beq m 255 = false := Bool.eq_false_iff.mpr (fun q => by
    have := Nat.eq_of_beq_eq_true q
    omega)
  unfold ax_code
  rw [hk 128 (by omega), cond_false, hk 192 (by omega), cond_false, hk 224 (by omega), cond_false, hk 240 (by omega), cond_false, hk 248 (by omega), cond_false, hk 252 (by omega), cond_false, hk 254 (by omega), cond_false, hk 255 (by omega), cond_false, hb, cond_false]
theorem sk13 : ∀ a, a < 13 → (ax_sk a).1 = 0 := by decide
theorem newOK_ft (m pc : Nat) : newOK (ax_ft m pc) := by
  by_cases h99 : (ax_ft m pc).1 = 99
  · unfold newOK
    rw [h99]
    exact ⟨fun q => absurd q (by decide), fun q => absurd q (by decide)⟩
  by_cases hm : m < 256
  · obtain ⟨-, h⟩ := ax_ft_ok hm h99
    generalize ax_ft m pc = e at h
    obtain ⟨op, nx, a, b, n⟩ := e
    unfold ax_side at h
    refine ⟨fun q => ?_, fun q => ?_⟩
    · show ax_own a
      have q : op = 26 ∨ op = 27 ∨ op = 28 ∨ op = 29 ∨ op = 44 ∨ op = 57 := q
      rcases q with rfl | rfl | rfl | rfl | rfl | rfl
      · simp only [Bool.and_eq_true] at h
        have := sk13 a (Nat.blt_eq.mp h.2.2.1)
        unfold ax_own
        omega
      · simp only [Bool.and_eq_true, decide_eq_true_eq] at h
        unfold ax_own
        rw [h.2.2.1]
        simp
      · simp only [Bool.and_eq_true, decide_eq_true_eq] at h
        unfold ax_own
        rw [h.2.2.2.2.1]
        simp
      · simp only [Bool.and_eq_true, decide_eq_true_eq] at h
        unfold ax_own
        rw [h.2.2.1]
        simp
      · simp only [Bool.and_eq_true, decide_eq_true_eq] at h
        unfold ax_own
        rw [h.2.2.1]
        simp
      · simp only [Bool.and_eq_true, decide_eq_true_eq] at h
        unfold ax_own
        rw [h.2.2.1]
        simp
    · show ax_own b
      have q : op = 29 := q
      subst q
      simp only [Bool.and_eq_true, decide_eq_true_eq] at h
      unfold ax_own
      rw [h.2.2.2.1]
      simp
  · exfalso
    refine h99 ?_
    unfold ax_ft
    rw [ax_code_big (by omega)]
    rfl
theorem fx_step {f : AF} {h : AH} {x : AN} (hx : ax_step f h = some x) : Fx h (an_h x) := by
  obtain ⟨m, pc, L, st⟩ := f
  exact fx_st (newOK_ft m pc) hx
def fxC (C : AC) : Prop := ∀ y as h (Q : Option AV → AH → Prop), C y as h Q → C y as h (fun r h' => Fx h h' ∧ Q r h')
theorem fx_run {C : AC} (hC : fxC C) (hm : ax_mono C) : ∀ (n : Nat) (f : AF) (h : AH) (Q : Option AV → AH → Prop), ax_run C n f h Q → ax_run C n f h (fun r h' => Fx h h' ∧ Q r h')
  | 0, _, _, _, h1 => h1.elim
  | n + 1, f, h, Q, h1 => by
    have ih := fx_run hC hm n
    unfold ax_run at h1 ⊢
    have hs : ∀ x, ax_step f h = some x → Fx h (an_h x) := fun x => fx_step
    generalize ax_step f h = x at h1 hs ⊢
    have mo : ∀ (f1 : AF) (h2 : AH), Fx h h2 → ax_run C n f1 h2 Q → ax_run C n f1 h2 (fun r h' => Fx h h' ∧ Q r h') := fun f1 h2 hf h3 => ax_run_mono hm n f1 h2 _ _ (fun r h' q => ⟨Fx_trans hf q.1, q.2⟩) (ih f1 h2 Q h3)
    match x, h1, hs with
    | some (.inl (f, h2)), h1, hs => exact mo f h2 (hs _ rfl) h1
    | some (.inr (.inl (P, f, h2))), h1, hs => exact ⟨h1.1, mo f h2 (hs _ rfl) h1.2⟩
    | some (.inr (.inr (.inl (r, h2)))), h1, hs => exact ⟨hs _ rfl, h1⟩
    | some (.inr (.inr (.inr (.inl (P, r, h2))))), h1, hs => exact ⟨h1.1, hs _ rfl, h1.2⟩
    | some (.inr (.inr (.inr (.inr (.inl (y, as, F, h2)))))), h1, hs =>
      exact hm _ _ _ _ _ (fun r h' q => mo (F r) h' (Fx_trans (hs _ rfl) q.1) q.2) (hC _ _ _ _ h1)
    | some (.inr (.inr (.inr (.inr (.inr (P, f, g, h2)))))), h1, hs => exact ⟨fun p => mo f h2 (hs _ rfl) (h1.1 p), fun p => mo g h2 (hs _ rfl) (h1.2 p)⟩
theorem fx_call : ∀ d : Nat, fxC (ax_call d)
  | 0 => fun _ _ _ _ h => h.elim
  | d + 1 => fun y as h Q h1 => by
    obtain ⟨n, h1⟩ := h1
    exact ⟨n, fx_run (fx_call d) (ax_call_mono d) n _ _ _ h1⟩
/-- a call on both, with what stays -/
theorem two_fx {D mC mM : Nat} {asC asM : List AV} {h0 : AH} {Q : Option AV → Option AV → AH → Prop} (h : ax_call D mC asC h0 (fun r h => ax_call D mM asM h (fun r' h' => Q r r' h'))) : ax_call D mC asC h0 (fun r h => Fx h0 h ∧ ax_call D mM asM h (fun r' h' => Fx h0 h' ∧ Q r r' h')) := by
  refine ax_call_Q (fx_call D _ _ _ _ h) (fun r h1 q => ⟨q.1, ?_⟩)
  exact ax_call_Q (fx_call D _ _ _ _ q.2) (fun r' h2 q2 => ⟨Fx_trans q.1 q2.1, q2.2⟩)
