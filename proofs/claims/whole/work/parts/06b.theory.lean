/-! runs: more fuel, one end, the equation of an instruction -/
def ax_mono (C : AC) : Prop := ∀ y as h (Q Q' : Option AV → AH → Prop), (∀ r h', Q r h' → Q' r h') → C y as h Q → C y as h Q'
/-- what C says it says of one end -/
def ax_det (C : AC) : Prop := ∀ y as h (Q : Option AV → AH → Prop), C y as h Q → ∃ r h', Q r h' ∧ ∀ Q' : Option AV → AH → Prop, Q' r h' → C y as h Q'
theorem ax_det.mono {C : AC} (hC : ax_det C) : ax_mono C := fun y as h Q Q' hQ h1 => by
  obtain ⟨r, h', h2, h3⟩ := hC y as h Q h1
  exact h3 Q' (hQ r h' h2)
theorem ax_op_mono {C : AC} (hC : ax_mono C) {x : Option AN} {K K' : AF → AH → Prop} {Q Q' : Option AV → AH → Prop} (hK : ∀ f h, K f h → K' f h) (hQ : ∀ r h, Q r h → Q' r h) (h : ax_op C x K Q) : ax_op C x K' Q' := by
  match x, h with
  | some (.inl (f, h)), h1 => exact hK _ _ h1
  | some (.inr (.inl (P, f, h))), h1 => exact ⟨h1.1, hK _ _ h1.2⟩
  | some (.inr (.inr (.inl (r, h)))), h1 => exact hQ _ _ h1
  | some (.inr (.inr (.inr (.inl (P, r, h))))), h1 => exact ⟨h1.1, hQ _ _ h1.2⟩
  | some (.inr (.inr (.inr (.inr (.inl (y, as, F, h)))))), h1 => exact hC _ _ _ _ _ (fun r h' => hK _ _) h1
  | some (.inr (.inr (.inr (.inr (.inr (P, f, g, h)))))), h1 => exact ⟨fun p => hK _ _ (h1.1 p), fun p => hK _ _ (h1.2 p)⟩
theorem ax_run_mono {C : AC} (hC : ax_mono C) : ∀ (n : Nat) (f : AF) (h : AH) (Q Q' : Option AV → AH → Prop), (∀ r h', Q r h' → Q' r h') → ax_run C n f h Q → ax_run C n f h Q'
  | 0, _, _, _, _, _, h1 => h1.elim
  | n + 1, f, h, Q, Q', hQ, h1 => ax_op_mono hC (fun f' h' => ax_run_mono hC n f' h' Q Q' hQ) hQ h1
theorem ax_run_more {C : AC} (hC : ax_mono C) : ∀ (n k : Nat) (f : AF) (h : AH) (Q : Option AV → AH → Prop), ax_run C n f h Q → ax_run C (n + k) f h Q
  | 0, _, _, _, _, h1 => h1.elim
  | n + 1, k, f, h, Q, h1 => by
    rw [show n + 1 + k = (n + k) + 1 by omega]
    exact ax_op_mono hC (fun f' h' => ax_run_more hC n k f' h' Q) (fun _ _ h => h) h1
theorem ax_run_det {C : AC} (hC : ax_det C) : ∀ (n : Nat) (f : AF) (h : AH) (Q : Option AV → AH → Prop), ax_run C n f h Q → ∃ r h', Q r h' ∧ ∀ Q' : Option AV → AH → Prop, Q' r h' → ax_run C n f h Q'
  | 0, _, _, _, h1 => h1.elim
  | n + 1, f, h, Q, h1 => by
    have ih := ax_run_det hC n
    unfold ax_run at h1 ⊢
    generalize ax_step f h = x at h1 ⊢
    match x, h1 with
    | some (.inl (f, h)), h1 => exact ih _ _ _ h1
    | some (.inr (.inl (P, f, h))), h1 =>
      obtain ⟨r, h', a, b⟩ := ih _ _ _ h1.2
      exact ⟨r, h', a, fun Q' q => ⟨h1.1, b Q' q⟩⟩
    | some (.inr (.inr (.inl (r, h)))), h1 => exact ⟨r, h, h1, fun Q' q => q⟩
    | some (.inr (.inr (.inr (.inl (P, r, h))))), h1 => exact ⟨r, h, h1.2, fun Q' q => ⟨h1.1, q⟩⟩
    | some (.inr (.inr (.inr (.inr (.inl (y, as, F, h)))))), h1 =>
      obtain ⟨r, h', a, b⟩ := hC _ _ _ _ h1
      obtain ⟨r2, h2, a2, b2⟩ := ih _ _ _ a
      exact ⟨r2, h2, a2, fun Q' q => b _ (b2 Q' q)⟩
    | some (.inr (.inr (.inr (.inr (.inr (P, f, g, h)))))), h1 =>
      by_cases hP : P
      · obtain ⟨r, h', a, b⟩ := ih _ _ _ (h1.1 hP)
        exact ⟨r, h', a, fun Q' q => ⟨fun _ => b Q' q, fun z => absurd hP z⟩⟩
      · obtain ⟨r, h', a, b⟩ := ih _ _ _ (h1.2 hP)
        exact ⟨r, h', a, fun Q' q => ⟨fun z => absurd z hP, fun _ => b Q' q⟩⟩
theorem ax_call_det : ∀ d : Nat, ax_det (ax_call d)
  | 0 => fun _ _ _ _ h => h.elim
  | d + 1 => fun y as h Q h1 => by
    obtain ⟨n, h1⟩ := h1
    obtain ⟨r, h', a, b⟩ := ax_run_det (ax_call_det d) n _ _ _ h1
    exact ⟨r, h', a, fun Q' q => ⟨n, b Q' q⟩⟩
theorem ax_call_mono (d : Nat) : ax_mono (ax_call d) := (ax_call_det d).mono
/-- a wider C -/
theorem ax_op_wide {C C' : AC} (hC : ∀ y as h Q, C y as h Q → C' y as h Q) {x : Option AN} {K : AF → AH → Prop} {Q : Option AV → AH → Prop} (h : ax_op C x K Q) : ax_op C' x K Q := by
  match x, h with
  | some (.inl (f, h)), h1 => exact h1
  | some (.inr (.inl (P, f, h))), h1 => exact h1
  | some (.inr (.inr (.inl (r, h)))), h1 => exact h1
  | some (.inr (.inr (.inr (.inl (P, r, h))))), h1 => exact h1
  | some (.inr (.inr (.inr (.inr (.inl (y, as, F, h)))))), h1 => exact hC _ _ _ _ h1
  | some (.inr (.inr (.inr (.inr (.inr (P, f, g, h)))))), h1 => exact h1
theorem ax_run_wide {C C' : AC} (hm : ax_mono C') (hC : ∀ y as h Q, C y as h Q → C' y as h Q) : ∀ (n : Nat) (f : AF) (h : AH) (Q : Option AV → AH → Prop), ax_run C n f h Q → ax_run C' n f h Q
  | 0, _, _, _, h1 => h1.elim
  | n + 1, f, h, Q, h1 => ax_op_mono hm (fun f' h' => ax_run_wide hm hC n f' h' Q) (fun _ _ h => h) (ax_op_wide hC h1)
theorem ax_call_succ : ∀ (d : Nat) (y : Nat) (as : List AV) (h : AH) (Q : Option AV → AH → Prop), ax_call d y as h Q → ax_call (d + 1) y as h Q
  | 0, _, _, _, _, h1 => h1.elim
  | d + 1, y, as, h, Q, h1 => by
    obtain ⟨n, h1⟩ := h1
    exact ⟨n, ax_run_wide (ax_call_mono (d + 1)) (ax_call_succ d) n _ _ _ h1⟩
theorem ax_call_le {d d' : Nat} (hd : d ≤ d') {y : Nat} {as : List AV} {h : AH} {Q : Option AV → AH → Prop} (h1 : ax_call d y as h Q) : ax_call d' y as h Q := by
  induction hd with
  | refl => exact h1
  | step _ ih => exact ax_call_succ _ _ _ _ _ ih
theorem Runs.mono {d : Nat} {f : AF} {h : AH} {Q Q' : Option AV → AH → Prop} (hQ : ∀ r h', Q r h' → Q' r h') (h1 : Runs d f h Q) : Runs d f h Q' := by
  rw [Runs_def] at h1 ⊢
  obtain ⟨n, h1⟩ := h1
  exact ⟨n, ax_run_mono (ax_call_mono d) n f h Q Q' hQ h1⟩
theorem ax_call_Q {d : Nat} {y : Nat} {as : List AV} {h : AH} {Q Q' : Option AV → AH → Prop} (h1 : ax_call d y as h Q) (hQ : ∀ r h', Q r h' → Q' r h') : ax_call d y as h Q' := ax_call_mono d _ _ _ _ _ hQ h1
theorem Runs_eq (d : Nat) (f : AF) (h : AH) (Q : Option AV → AH → Prop) : Runs d f h Q = ax_op (ax_call d) (ax_step f h) (fun f' h' => Runs d f' h' Q) Q := by
  have e : (fun (f' : AF) (h' : AH) => Runs d f' h' Q) = (fun f' h' => ∃ n, ax_run (ax_call d) n f' h' Q) := funext fun f' => funext fun h' => Runs_def d f' h' Q
  rw [e, Runs_def]
  apply propext
  constructor
  · rintro ⟨n, h1⟩
    cases n with
    | zero => exact h1.elim
    | succ n => exact ax_op_mono (ax_call_mono d) (fun f' h' q => ⟨n, q⟩) (fun _ _ q => q) h1
  · intro h1
    suffices hs : ∃ n, ax_op (ax_call d) (ax_step f h) (fun f' h' => ax_run (ax_call d) n f' h' Q) Q by
      obtain ⟨n, hn⟩ := hs
      exact ⟨n + 1, hn⟩
    generalize ax_step f h = x at h1 ⊢
    match x, h1 with
    | some (.inl (f, h)), h1 => exact h1
    | some (.inr (.inl (P, f, h))), h1 => exact h1.2.elim fun n q => ⟨n, h1.1, q⟩
    | some (.inr (.inr (.inl (r, h)))), h1 => exact ⟨0, h1⟩
    | some (.inr (.inr (.inr (.inl (P, r, h))))), h1 => exact ⟨0, h1⟩
    | some (.inr (.inr (.inr (.inr (.inl (y, as, F, h)))))), h1 =>
      obtain ⟨r, h', ⟨n, a⟩, b⟩ := ax_call_det d _ _ _ _ h1
      exact ⟨n, b _ a⟩
    | some (.inr (.inr (.inr (.inr (.inr (P, f, g, h)))))), h1 =>
      by_cases hP : P
      · obtain ⟨n, q⟩ := h1.1 hP
        exact ⟨n, fun _ => q, fun z => absurd hP z⟩
      · obtain ⟨n, q⟩ := h1.2 hP
        exact ⟨n, fun z => absurd z hP, fun _ => q⟩
theorem ax_op_congr {C : AC} {x : Option AN} {K K' : AF → AH → Prop} {Q : Option AV → AH → Prop} (hK : ∀ f h, K f h = K' f h) : ax_op C x K Q = ax_op C x K' Q := by
  have : K = K' := funext fun f => funext fun h => hK f h
  rw [this]
theorem Runs_steps (d : Nat) (Q : Option AV → AH → Prop) : ∀ (n : Nat) (f : AF) (h : AH), Runs d f h Q = ax_steps (ax_call d) n f h (fun f' h' => Runs d f' h' Q) Q
  | 0, f, h => rfl
  | n + 1, f, h => (Runs_eq d f h Q).trans (ax_op_congr (fun f' h' => Runs_steps d Q n f' h'))
/-- a call is a run from its entry -/
theorem ax_call_runs {d : Nat} {m : Nat} {as : List AV} {h : AH} {Q : Option AV → AH → Prop} (h1 : Runs d (ax_entry m as) h Q) : ax_call (d + 1) m as h Q := by
  rw [Runs_def] at h1
  exact h1
