/-! what isn't its own no run writes -/
def Fx (h h' : AH) : Prop := ∀ s, ¬ ax_own s → h'.1 s = h.1 s ∧ h'.2.1 s = h.2.1 s ∧ h'.2.2.1 s = h.2.2.1 s ∧ h'.2.2.2.1 s = h.2.2.2.1 s
theorem Fx_refl (h : AH) : Fx h h := fun _ _ => ⟨rfl, rfl, rfl, rfl⟩
theorem Fx_trans {a b c : AH} (h1 : Fx a b) (h2 : Fx b c) : Fx a c := fun s hs => ⟨(h2 s hs).1.trans (h1 s hs).1, (h2 s hs).2.1.trans (h1 s hs).2.1, (h2 s hs).2.2.1.trans (h1 s hs).2.2.1, (h2 s hs).2.2.2.trans (h1 s hs).2.2.2⟩
def an_h : AN → AH
  | .inl (_, h) => h
  | .inr (.inl (_, _, h)) => h
  | .inr (.inr (.inl (_, h))) => h
  | .inr (.inr (.inr (.inl (_, _, h)))) => h
  | .inr (.inr (.inr (.inr (.inl (_, _, _, h))))) => h
  | .inr (.inr (.inr (.inr (.inr (_, _, _, h))))) => h
theorem own_ne {s t : Nat} (hs : ax_own s) (ht : ¬ ax_own t) : t ≠ s := fun e => ht (by rw [e]; exact hs)
theorem Fx_wI {h : AH} {s a j : Nat} {v : Int32} (hs : ax_own s) : Fx h (ax_wI h.1 s a j v, h.2) := fun t ht => ⟨funext fun a' => funext fun j' => by
  show ax_wI h.1 s a j v t a' j' = _
  unfold ax_wI
  rw [if_neg (fun q => own_ne hs ht q.1)], rfl, rfl, rfl⟩
theorem Fx_wR {h : AH} {s a j : Nat} {v : AR} (hs : ax_own s) : Fx h (h.1, ax_wR h.2.1 s a j v, h.2.2) := fun t ht => ⟨rfl, funext fun a' => funext fun j' => by
  show ax_wR h.2.1 s a j v t a' j' = _
  unfold ax_wR
  rw [if_neg (fun q => own_ne hs ht q.1)], rfl, rfl⟩
theorem Fx_cI {h : AH} {s a sp t b dp n : Nat} (hs : ax_own t) : Fx h (ax_cI h.1 s a sp t b dp n, h.2) := fun u hu => ⟨funext fun a' => funext fun j' => by
  show ax_cI h.1 s a sp t b dp n u a' j' = _
  unfold ax_cI
  rw [if_neg (fun q => own_ne hs hu q.1)], rfl, rfl, rfl⟩
theorem Fx_newR {h : AH} {s n : Nat} (hs : ax_own s) : ∀ t, ¬ ax_own t → (ax_new h s n).2.1 t = h.2.1 t ∧ (ax_new h s n).2.2.1 t = h.2.2.1 t ∧ (ax_new h s n).2.2.2.1 t = h.2.2.2.1 t := fun t ht => by
  have hne := own_ne hs ht
  refine ⟨funext fun a' => funext fun j' => ?_, ?_, funext fun a' => ?_⟩
  · show ax_zR h.2.1 s (h.2.2.1 s) n t a' j' = _
    unfold ax_zR
    rw [if_neg (fun q => hne q.1)]
  · show ax_wN h.2.2.1 s (h.2.2.1 s + 1) t = _
    unfold ax_wN
    rw [if_neg hne]
  · show ax_wL h.2.2.2.1 s (h.2.2.1 s) n t a' = _
    unfold ax_wL
    rw [if_neg (fun q => hne q.1)]
theorem Fx_new {h : AH} {s n : Nat} (hs : ax_own s) : Fx h (ax_new h s n) := fun t ht => ⟨funext fun a' => funext fun j' => by
  show ax_zI h.1 s (h.2.2.1 s) n t a' j' = _
  unfold ax_zI
  rw [if_neg (fun q => own_ne hs ht q.1)], Fx_newR hs t ht⟩
theorem Fx_newl {h : AH} {s n : Nat} (hs : ax_own s) : Fx h (ax_newl h s n) := fun t ht => ⟨funext fun a' => funext fun j' => by
  show ax_zI h.1 s (h.2.2.1 s) (n + n) t a' j' = _
  unfold ax_zI
  rw [if_neg (fun q => own_ne hs ht q.1)], Fx_newR hs t ht⟩
theorem Fx_wI2 {h : AH} {s a j k : Nat} {v w : Int32} (hs : ax_own s) : Fx h (ax_wI (ax_wI h.1 s a j v) s a k w, h.2) := Fx_trans (Fx_wI (h := h) (j := j) (v := v) hs) (Fx_wI (h := (ax_wI h.1 s a j v, h.2)) (j := k) (v := w) hs)
theorem Fx_cl {h : AH} {s a t n : Nat} (hs : ax_own t) : Fx h (ax_cl h s a t n) := fun u hu => ⟨funext fun a' => funext fun j' => by
  show (if u = t ∧ a' = h.2.2.1 t ∧ j' < n then h.1 s a j' else h.1 u a' j') = _
  rw [if_neg (fun q => own_ne hs hu q.1)], Fx_newR hs u hu⟩
theorem Fx_mnew {h : AH} {s t n k : Nat} (hs : ax_own s) (ht : ax_own t) : Fx h (ax_mnew h s t n k) := fun u hu => by
  have h1 := own_ne hs hu
  have h2 := own_ne ht hu
  refine ⟨funext fun a' => funext fun j' => ?_, funext fun a' => funext fun j' => ?_, ?_, rfl⟩
  · show (if u = t ∧ h.2.2.1 t ≤ a' ∧ a' < h.2.2.1 t + n ∧ j' < k then 0 else h.1 u a' j') = _
    rw [if_neg (fun q => h2 q.1)]
  · show (if u = s ∧ a' = h.2.2.1 s ∧ j' < n then some (t, h.2.2.1 t + j') else if u = t ∧ h.2.2.1 t ≤ a' ∧ a' < h.2.2.1 t + n ∧ j' < k then none else h.2.1 u a' j') = _
    rw [if_neg (fun q => h1 q.1), if_neg (fun q => h2 q.1)]
  · show ax_wN (ax_wN h.2.2.1 s (h.2.2.1 s + 1)) t (h.2.2.1 t + n) u = _
    unfold ax_wN
    rw [if_neg h2, if_neg h1]
theorem own_o0 {s c : Nat} (h : ax_o0 s c = true) : ax_own s := by
  unfold ax_o0 at h
  rw [Bool.and_eq_true] at h
  have := Nat.eq_of_beq_eq_true h.1
  unfold ax_own
  omega
theorem own_a1 {s c : Nat} (h : ax_a1 s c = true) : ax_own s := by
  unfold ax_a1 at h
  rw [Bool.and_eq_true] at h
  have := Nat.eq_of_beq_eq_true h.1
  unfold ax_own
  omega
theorem own_aq {s : Nat} {b : Bool} (h : (ax_aq s && b) = true) : ax_own s := by
  rw [Bool.and_eq_true] at h
  have h := h.1
  unfold ax_aq at h
  rw [Bool.and_eq_true] at h
  have := Nat.eq_of_beq_eq_true h.1
  unfold ax_own
  omega
theorem own_cp {t : Nat} {p q r s : Bool} (h : (p && q && Nat.beq (ax_sk t).1 1 && r && s) = true) : ax_own t := by
  simp only [Bool.and_eq_true] at h
  have := Nat.eq_of_beq_eq_true h.1.1.2
  unfold ax_own
  omega
def newOK (e : AI) : Prop := ((e.1 = 26 ∨ e.1 = 27 ∨ e.1 = 28 ∨ e.1 = 29 ∨ e.1 = 44 ∨ e.1 = 57) → ax_own e.2.2.1) ∧ (e.1 = 29 → ax_own e.2.2.2.1)
theorem fx_st {e : AI} {m : Nat} {L : AL} {st : List AV} {h : AH} {x : AN} (hn : newOK e) (hx : ax_st e m L st h = some x) : Fx h (an_h x) := by
  obtain ⟨op, nx, a, b, n⟩ := e
  obtain ⟨hn1, hn2⟩ := hn
  unfold ax_st at hx
  dsimp only at hx hn1 hn2
  split at hx
  all_goals (try simp only [st_load, st_store, st_iinc, st_ib, st_id, st_lb, st_ld, st_iu, st_i2l, st_l2i, st_lcmp, st_if, st_ic, st_nul, st_tsw, st_iret, st_lret, st_aret, st_vret, st_geti, st_puti, st_gets, st_call, st_newo, st_newa, st_newq, st_newm, st_alen, st_ild, st_ist, st_bld, st_bst, st_ald, st_ast, st_dup, st_dup2, st_pop, st_oin, st_acp, st_clo, st_cas, st_getr, st_getf, st_getd, st_putz, st_putr, st_alf, st_callv, st_mm, st_lsh, st_lld, st_lst, st_newl, st_ald2, Bool.cond_eq_ite] at hx)
  all_goals (repeat' (split at hx))
  all_goals first
    | (cases hx; exact Fx_refl _)
    | (cases hx; done)
    | (cases hx; exact Fx_wI (own_o0 (by assumption)))
    | (cases hx; exact Fx_wI (own_a1 (by assumption)))
    | (cases hx; exact Fx_wI2 (own_a1 (by assumption)))
    | (cases hx; exact Fx_newl (hn1 (by simp)))
    | (cases hx; exact Fx_wR (own_o0 (by assumption)))
    | (cases hx; exact Fx_wR (own_aq (by assumption)))
    | (cases hx; exact Fx_cI (own_cp (by assumption)))
    | (cases hx; exact Fx_new (hn1 (by simp)))
    | (cases hx; exact Fx_cl (hn1 (by simp)))
    | (cases hx; exact Fx_mnew (hn1 (by simp)) (hn2 rfl))
