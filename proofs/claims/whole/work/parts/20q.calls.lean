/-! a call that ends so for every Q is that Q at its end -/
def ax_cj (C : AC) : Prop := ∀ y as h (Q1 Q2 : Option AV → AH → Prop), C y as h Q1 → C y as h Q2 → C y as h (fun r h' => Q1 r h' ∧ Q2 r h')
theorem ax_run_cj {C : AC} (hC : ax_cj C) (hm : ax_mono C) : ∀ (n n' : Nat) (f : AF) (h : AH) (Q1 Q2 : Option AV → AH → Prop), ax_run C n f h Q1 → ax_run C n' f h Q2 → ax_run C n f h (fun r h' => Q1 r h' ∧ Q2 r h')
  | 0, _, _, _, _, _, h1, _ => h1.elim
  | _ + 1, 0, _, _, _, _, _, h2 => h2.elim
  | n + 1, n' + 1, f, h, Q1, Q2, h1, h2 => by
    have ih := ax_run_cj hC hm n n'
    unfold ax_run at h1 h2 ⊢
    generalize ax_step f h = x at h1 h2 ⊢
    match x, h1, h2 with
    | some (.inl (f, h)), h1, h2 => exact ih _ _ _ _ h1 h2
    | some (.inr (.inl (P, f, h))), h1, h2 => exact ⟨h1.1, ih _ _ _ _ h1.2 h2.2⟩
    | some (.inr (.inr (.inl (r, h)))), h1, h2 => exact ⟨h1, h2⟩
    | some (.inr (.inr (.inr (.inl (P, r, h))))), h1, h2 => exact ⟨h1.1, h1.2, h2.2⟩
    | some (.inr (.inr (.inr (.inr (.inl (y, as, F, h)))))), h1, h2 => exact hm _ _ _ _ _ (fun r h' q => ih _ _ _ _ q.1 q.2) (hC _ _ _ _ _ h1 h2)
    | some (.inr (.inr (.inr (.inr (.inr (P, f, g, h)))))), h1, h2 => exact ⟨fun p => ih _ _ _ _ (h1.1 p) (h2.1 p), fun p => ih _ _ _ _ (h1.2 p) (h2.2 p)⟩
theorem ax_call_cj : ∀ d : Nat, ax_cj (ax_call d)
  | 0 => fun _ _ _ _ _ h _ => h.elim
  | d + 1 => fun y as h Q1 Q2 h1 h2 => by
    obtain ⟨n, h1⟩ := h1
    obtain ⟨n', h2⟩ := h2
    exact ⟨n, ax_run_cj (ax_call_cj d) (ax_call_mono d) n n' _ _ _ _ h1 h2⟩
/-- an end that holds for every Q is the end -/
theorem ax_call_eq {d m : Nat} {as : List AV} {h : AH} {r : Option AV} {h' : AH} (hq : ∀ Q : Option AV → AH → Prop, Q r h' → ax_call d m as h Q) (Q : Option AV → AH → Prop) : ax_call d m as h Q = Q r h' := by
  apply propext
  refine ⟨fun h1 => ?_, hq Q⟩
  have h2 := ax_call_cj d _ _ _ _ _ h1 (hq (fun x y => x = r ∧ y = h') ⟨rfl, rfl⟩)
  obtain ⟨r2, h2', ⟨q1, q2, q3⟩, -⟩ := ax_call_det d _ _ _ _ h2
  subst q2
  subst q3
  exact q1
theorem ax_psh_none (st : List AV) : ax_psh none st = st := rfl
theorem ax_psh_some (v : AV) (st : List AV) : ax_psh (some v) st = v :: st := rfl
theorem wI_at (f : Nat → Nat → Nat → Int32) (s a j : Nat) (v : Int32) (s' a' j' : Nat) : ax_wI f s a j v s' a' j' = if s' = s ∧ a' = a ∧ j' = j then v else f s' a' j' := rfl
theorem wR_at (f : Nat → Nat → Nat → AR) (s a j : Nat) (v : AR) (s' a' j' : Nat) : ax_wR f s a j v s' a' j' = if s' = s ∧ a' = a ∧ j' = j then v else f s' a' j' := rfl
theorem cI_at (f : Nat → Nat → Nat → Int32) (s a sp t b dp n s' a' j : Nat) : ax_cI f s a sp t b dp n s' a' j = if s' = t ∧ a' = b ∧ dp ≤ j ∧ j < dp + n then f s a (sp + (j - dp)) else f s' a' j := rfl
/-- what is asked where a thing is known -/
theorem bq_t {c A B : Prop} (h : c) : ((c → A) ∧ (¬ c → B)) = A := by
  apply propext
  exact ⟨fun q => q.1 h, fun q => ⟨fun _ => q, fun z => absurd h z⟩⟩
theorem bq_f {c A B : Prop} (h : ¬ c) : ((c → A) ∧ (¬ c → B)) = B := by
  apply propext
  exact ⟨fun q => q.2 h, fun q => ⟨fun z => absurd z h, fun _ => q⟩⟩
theorem bq_both {c A B R : Prop} (h1 : c → A = R) (h2 : ¬ c → B = R) : ((c → A) ∧ (¬ c → B)) = R := by
  by_cases h : c
  · rw [bq_t h, h1 h]
  · rw [bq_f h, h2 h]
