
/-- counts never fall -/
def ax_cm (h h' : AH) : Prop := h.2.2.2.2.1 ≤ h'.2.2.2.2.1 ∧ h.2.2.2.2.2 ≤ h'.2.2.2.2.2 ∧ ∀ s, h.2.2.1 s ≤ h'.2.2.1 s
theorem ax_cm.rf {h : AH} : ax_cm h h := ⟨Nat.le_refl _, Nat.le_refl _, fun _ => Nat.le_refl _⟩
theorem ax_cm.tr {h h' h'' : AH} (a : ax_cm h h') (b : ax_cm h' h'') : ax_cm h h'' := ⟨Nat.le_trans a.1 b.1, Nat.le_trans a.2.1 b.2.1, fun s => Nat.le_trans (a.2.2 s) (b.2.2 s)⟩
theorem ax_cm.nw {h : AH} {t n : Nat} : ax_cm h (ax_new h t n) := ⟨Nat.le_succ _, Nat.le_add_right _ _, ax_new_nle⟩
theorem ax_cm.nl {h : AH} {t n : Nat} : ax_cm h (ax_newl h t n) := ⟨Nat.le_succ _, Nat.le_add_right _ _, ax_new_nle⟩
theorem ax_cm.cl {h : AH} {t n s a : Nat} : ax_cm h (ax_cl h s a t n) := ⟨Nat.le_succ _, Nat.le_add_right _ _, ax_new_nle⟩
theorem ax_cm.mn {h : AH} {s t n k : Nat} : ax_cm h (ax_mnew h s t n k) := by
  refine ⟨?_, ?_, fun x => ?_⟩
  · show h.2.2.2.2.1 ≤ h.2.2.2.2.1 + 1 + n
    omega
  · show h.2.2.2.2.2 ≤ h.2.2.2.2.2 + n + n * k
    omega
  · show h.2.2.1 x ≤ ax_wN (ax_wN h.2.2.1 s (h.2.2.1 s + 1)) t (h.2.2.1 t + n) x
    unfold ax_wN
    by_cases e : x = t
    · subst e
      rw [if_pos rfl]
      omega
    · rw [if_neg e]
      by_cases e2 : x = s
      · subst e2
        rw [if_pos rfl]
        omega
      · rw [if_neg e2]
        exact Nat.le_refl _
/-- what follows is of the same method -/
def ax_inm (m : Nat) (h : AH) (x : Option AN) : Prop := match x with
  | none => True
  | some (.inl (f, h')) => f.1 = m ∧ ax_cm h h'
  | some (.inr (.inl (_, f, h'))) => f.1 = m ∧ ax_cm h h'
  | some (.inr (.inr (.inl (_, h')))) => ax_cm h h'
  | some (.inr (.inr (.inr (.inl (_, _, h'))))) => ax_cm h h'
  | some (.inr (.inr (.inr (.inr (.inl (_, _, F, h')))))) => (∀ r, (F r).1 = m) ∧ ax_cm h h'
  | some (.inr (.inr (.inr (.inr (.inr (_, f, g, h')))))) => f.1 = m ∧ g.1 = m ∧ ax_cm h h'
theorem ax_inm_k {m : Nat} {h h' : AH} {f : AF} (hf : f.1 = m) (hc : ax_cm h h') : ax_inm m h (an_k f h') := ⟨hf, hc⟩
theorem ax_inm_c {m : Nat} {h : AH} {b : Bool} {x : Option AN} (hx : ax_inm m h x) : ax_inm m h (cond b x none) := by
  cases b
  · exact trivial
  · exact hx
theorem ax_inm_c2 {m : Nat} {h : AH} {b : Bool} {x y : Option AN} (hx : ax_inm m h x) (hy : ax_inm m h y) : ax_inm m h (cond b x y) := by
  cases b
  · exact hy
  · exact hx
theorem im_st_load {m nx a b : Nat} {n : Int32} {L : AL} {st : List AV} {h : AH} : ax_inm m h (st_load m nx a b L st h) := by
  unfold st_load
  repeat' split
  all_goals first
    | exact trivial
    | exact ⟨rfl, ax_cm.rf⟩
    | exact ax_cm.rf
    | exact ⟨rfl, rfl, ax_cm.rf⟩
    | exact ⟨fun _ => rfl, ax_cm.rf⟩
    | exact ⟨rfl, ax_cm.nw⟩
    | exact ⟨rfl, ax_cm.nl⟩
    | exact ⟨rfl, ax_cm.mn⟩
    | exact ⟨rfl, ax_cm.cl⟩
    | (refine ax_inm_c ?_; first | exact ⟨rfl, ax_cm.rf⟩ | exact ⟨fun _ => rfl, ax_cm.rf⟩ | exact ⟨rfl, ax_cm.cl⟩)
    | (refine ax_inm_c2 ?_ (ax_inm_c ?_) <;> exact ⟨rfl, ax_cm.rf⟩)
theorem im_st_store {m nx a b : Nat} {n : Int32} {L : AL} {st : List AV} {h : AH} : ax_inm m h (st_store m nx a b L st h) := by
  unfold st_store
  repeat' split
  all_goals first
    | exact trivial
    | exact ⟨rfl, ax_cm.rf⟩
    | exact ax_cm.rf
    | exact ⟨rfl, rfl, ax_cm.rf⟩
    | exact ⟨fun _ => rfl, ax_cm.rf⟩
    | exact ⟨rfl, ax_cm.nw⟩
    | exact ⟨rfl, ax_cm.nl⟩
    | exact ⟨rfl, ax_cm.mn⟩
    | exact ⟨rfl, ax_cm.cl⟩
    | (refine ax_inm_c ?_; first | exact ⟨rfl, ax_cm.rf⟩ | exact ⟨fun _ => rfl, ax_cm.rf⟩ | exact ⟨rfl, ax_cm.cl⟩)
    | (refine ax_inm_c2 ?_ (ax_inm_c ?_) <;> exact ⟨rfl, ax_cm.rf⟩)
theorem im_st_iinc {m nx a b : Nat} {n : Int32} {L : AL} {st : List AV} {h : AH} : ax_inm m h (st_iinc m nx a n L st h) := by
  unfold st_iinc
  repeat' split
  all_goals first
    | exact trivial
    | exact ⟨rfl, ax_cm.rf⟩
    | exact ax_cm.rf
    | exact ⟨rfl, rfl, ax_cm.rf⟩
    | exact ⟨fun _ => rfl, ax_cm.rf⟩
    | exact ⟨rfl, ax_cm.nw⟩
    | exact ⟨rfl, ax_cm.nl⟩
    | exact ⟨rfl, ax_cm.mn⟩
    | exact ⟨rfl, ax_cm.cl⟩
    | (refine ax_inm_c ?_; first | exact ⟨rfl, ax_cm.rf⟩ | exact ⟨fun _ => rfl, ax_cm.rf⟩ | exact ⟨rfl, ax_cm.cl⟩)
    | (refine ax_inm_c2 ?_ (ax_inm_c ?_) <;> exact ⟨rfl, ax_cm.rf⟩)
theorem im_st_ib {m nx a b : Nat} {n : Int32} {L : AL} {st : List AV} {h : AH} : ax_inm m h (st_ib m nx b L st h) := by
  unfold st_ib
  repeat' split
  all_goals first
    | exact trivial
    | exact ⟨rfl, ax_cm.rf⟩
    | exact ax_cm.rf
    | exact ⟨rfl, rfl, ax_cm.rf⟩
    | exact ⟨fun _ => rfl, ax_cm.rf⟩
    | exact ⟨rfl, ax_cm.nw⟩
    | exact ⟨rfl, ax_cm.nl⟩
    | exact ⟨rfl, ax_cm.mn⟩
    | exact ⟨rfl, ax_cm.cl⟩
    | (refine ax_inm_c ?_; first | exact ⟨rfl, ax_cm.rf⟩ | exact ⟨fun _ => rfl, ax_cm.rf⟩ | exact ⟨rfl, ax_cm.cl⟩)
    | (refine ax_inm_c2 ?_ (ax_inm_c ?_) <;> exact ⟨rfl, ax_cm.rf⟩)
theorem im_st_id {m nx a b : Nat} {n : Int32} {L : AL} {st : List AV} {h : AH} : ax_inm m h (st_id m nx b L st h) := by
  unfold st_id
  repeat' split
  all_goals first
    | exact trivial
    | exact ⟨rfl, ax_cm.rf⟩
    | exact ax_cm.rf
    | exact ⟨rfl, rfl, ax_cm.rf⟩
    | exact ⟨fun _ => rfl, ax_cm.rf⟩
    | exact ⟨rfl, ax_cm.nw⟩
    | exact ⟨rfl, ax_cm.nl⟩
    | exact ⟨rfl, ax_cm.mn⟩
    | exact ⟨rfl, ax_cm.cl⟩
    | (refine ax_inm_c ?_; first | exact ⟨rfl, ax_cm.rf⟩ | exact ⟨fun _ => rfl, ax_cm.rf⟩ | exact ⟨rfl, ax_cm.cl⟩)
    | (refine ax_inm_c2 ?_ (ax_inm_c ?_) <;> exact ⟨rfl, ax_cm.rf⟩)
theorem im_st_lb {m nx a b : Nat} {n : Int32} {L : AL} {st : List AV} {h : AH} : ax_inm m h (st_lb m nx b L st h) := by
  unfold st_lb
  repeat' split
  all_goals first
    | exact trivial
    | exact ⟨rfl, ax_cm.rf⟩
    | exact ax_cm.rf
    | exact ⟨rfl, rfl, ax_cm.rf⟩
    | exact ⟨fun _ => rfl, ax_cm.rf⟩
    | exact ⟨rfl, ax_cm.nw⟩
    | exact ⟨rfl, ax_cm.nl⟩
    | exact ⟨rfl, ax_cm.mn⟩
    | exact ⟨rfl, ax_cm.cl⟩
    | (refine ax_inm_c ?_; first | exact ⟨rfl, ax_cm.rf⟩ | exact ⟨fun _ => rfl, ax_cm.rf⟩ | exact ⟨rfl, ax_cm.cl⟩)
    | (refine ax_inm_c2 ?_ (ax_inm_c ?_) <;> exact ⟨rfl, ax_cm.rf⟩)
theorem im_st_ld {m nx a b : Nat} {n : Int32} {L : AL} {st : List AV} {h : AH} : ax_inm m h (st_ld m nx b L st h) := by
  unfold st_ld
  repeat' split
  all_goals first
    | exact trivial
    | exact ⟨rfl, ax_cm.rf⟩
    | exact ax_cm.rf
    | exact ⟨rfl, rfl, ax_cm.rf⟩
    | exact ⟨fun _ => rfl, ax_cm.rf⟩
    | exact ⟨rfl, ax_cm.nw⟩
    | exact ⟨rfl, ax_cm.nl⟩
    | exact ⟨rfl, ax_cm.mn⟩
    | exact ⟨rfl, ax_cm.cl⟩
    | (refine ax_inm_c ?_; first | exact ⟨rfl, ax_cm.rf⟩ | exact ⟨fun _ => rfl, ax_cm.rf⟩ | exact ⟨rfl, ax_cm.cl⟩)
    | (refine ax_inm_c2 ?_ (ax_inm_c ?_) <;> exact ⟨rfl, ax_cm.rf⟩)
theorem im_st_iu {m nx a b : Nat} {n : Int32} {L : AL} {st : List AV} {h : AH} : ax_inm m h (st_iu m nx b L st h) := by
  unfold st_iu
  repeat' split
  all_goals first
    | exact trivial
    | exact ⟨rfl, ax_cm.rf⟩
    | exact ax_cm.rf
    | exact ⟨rfl, rfl, ax_cm.rf⟩
    | exact ⟨fun _ => rfl, ax_cm.rf⟩
    | exact ⟨rfl, ax_cm.nw⟩
    | exact ⟨rfl, ax_cm.nl⟩
    | exact ⟨rfl, ax_cm.mn⟩
    | exact ⟨rfl, ax_cm.cl⟩
    | (refine ax_inm_c ?_; first | exact ⟨rfl, ax_cm.rf⟩ | exact ⟨fun _ => rfl, ax_cm.rf⟩ | exact ⟨rfl, ax_cm.cl⟩)
    | (refine ax_inm_c2 ?_ (ax_inm_c ?_) <;> exact ⟨rfl, ax_cm.rf⟩)
theorem im_st_i2l {m nx a b : Nat} {n : Int32} {L : AL} {st : List AV} {h : AH} : ax_inm m h (st_i2l m nx L st h) := by
  unfold st_i2l
  repeat' split
  all_goals first
    | exact trivial
    | exact ⟨rfl, ax_cm.rf⟩
    | exact ax_cm.rf
    | exact ⟨rfl, rfl, ax_cm.rf⟩
    | exact ⟨fun _ => rfl, ax_cm.rf⟩
    | exact ⟨rfl, ax_cm.nw⟩
    | exact ⟨rfl, ax_cm.nl⟩
    | exact ⟨rfl, ax_cm.mn⟩
    | exact ⟨rfl, ax_cm.cl⟩
    | (refine ax_inm_c ?_; first | exact ⟨rfl, ax_cm.rf⟩ | exact ⟨fun _ => rfl, ax_cm.rf⟩ | exact ⟨rfl, ax_cm.cl⟩)
    | (refine ax_inm_c2 ?_ (ax_inm_c ?_) <;> exact ⟨rfl, ax_cm.rf⟩)
theorem im_st_l2i {m nx a b : Nat} {n : Int32} {L : AL} {st : List AV} {h : AH} : ax_inm m h (st_l2i m nx L st h) := by
  unfold st_l2i
  repeat' split
  all_goals first
    | exact trivial
    | exact ⟨rfl, ax_cm.rf⟩
    | exact ax_cm.rf
    | exact ⟨rfl, rfl, ax_cm.rf⟩
    | exact ⟨fun _ => rfl, ax_cm.rf⟩
    | exact ⟨rfl, ax_cm.nw⟩
    | exact ⟨rfl, ax_cm.nl⟩
    | exact ⟨rfl, ax_cm.mn⟩
    | exact ⟨rfl, ax_cm.cl⟩
    | (refine ax_inm_c ?_; first | exact ⟨rfl, ax_cm.rf⟩ | exact ⟨fun _ => rfl, ax_cm.rf⟩ | exact ⟨rfl, ax_cm.cl⟩)
    | (refine ax_inm_c2 ?_ (ax_inm_c ?_) <;> exact ⟨rfl, ax_cm.rf⟩)
theorem im_st_lcmp {m nx a b : Nat} {n : Int32} {L : AL} {st : List AV} {h : AH} : ax_inm m h (st_lcmp m nx L st h) := by
  unfold st_lcmp
  repeat' split
  all_goals first
    | exact trivial
    | exact ⟨rfl, ax_cm.rf⟩
    | exact ax_cm.rf
    | exact ⟨rfl, rfl, ax_cm.rf⟩
    | exact ⟨fun _ => rfl, ax_cm.rf⟩
    | exact ⟨rfl, ax_cm.nw⟩
    | exact ⟨rfl, ax_cm.nl⟩
    | exact ⟨rfl, ax_cm.mn⟩
    | exact ⟨rfl, ax_cm.cl⟩
    | (refine ax_inm_c ?_; first | exact ⟨rfl, ax_cm.rf⟩ | exact ⟨fun _ => rfl, ax_cm.rf⟩ | exact ⟨rfl, ax_cm.cl⟩)
    | (refine ax_inm_c2 ?_ (ax_inm_c ?_) <;> exact ⟨rfl, ax_cm.rf⟩)
theorem im_st_if {m nx a b : Nat} {n : Int32} {L : AL} {st : List AV} {h : AH} : ax_inm m h (st_if m nx a b L st h) := by
  unfold st_if
  repeat' split
  all_goals first
    | exact trivial
    | exact ⟨rfl, ax_cm.rf⟩
    | exact ax_cm.rf
    | exact ⟨rfl, rfl, ax_cm.rf⟩
    | exact ⟨fun _ => rfl, ax_cm.rf⟩
    | exact ⟨rfl, ax_cm.nw⟩
    | exact ⟨rfl, ax_cm.nl⟩
    | exact ⟨rfl, ax_cm.mn⟩
    | exact ⟨rfl, ax_cm.cl⟩
    | (refine ax_inm_c ?_; first | exact ⟨rfl, ax_cm.rf⟩ | exact ⟨fun _ => rfl, ax_cm.rf⟩ | exact ⟨rfl, ax_cm.cl⟩)
    | (refine ax_inm_c2 ?_ (ax_inm_c ?_) <;> exact ⟨rfl, ax_cm.rf⟩)
theorem im_st_ic {m nx a b : Nat} {n : Int32} {L : AL} {st : List AV} {h : AH} : ax_inm m h (st_ic m nx a b L st h) := by
  unfold st_ic
  repeat' split
  all_goals first
    | exact trivial
    | exact ⟨rfl, ax_cm.rf⟩
    | exact ax_cm.rf
    | exact ⟨rfl, rfl, ax_cm.rf⟩
    | exact ⟨fun _ => rfl, ax_cm.rf⟩
    | exact ⟨rfl, ax_cm.nw⟩
    | exact ⟨rfl, ax_cm.nl⟩
    | exact ⟨rfl, ax_cm.mn⟩
    | exact ⟨rfl, ax_cm.cl⟩
    | (refine ax_inm_c ?_; first | exact ⟨rfl, ax_cm.rf⟩ | exact ⟨fun _ => rfl, ax_cm.rf⟩ | exact ⟨rfl, ax_cm.cl⟩)
    | (refine ax_inm_c2 ?_ (ax_inm_c ?_) <;> exact ⟨rfl, ax_cm.rf⟩)
theorem im_st_nul {m nx a b : Nat} {n : Int32} {L : AL} {st : List AV} {h : AH} : ax_inm m h (st_nul m nx a b L st h) := by
  unfold st_nul
  repeat' split
  all_goals first
    | exact trivial
    | exact ⟨rfl, ax_cm.rf⟩
    | exact ax_cm.rf
    | exact ⟨rfl, rfl, ax_cm.rf⟩
    | exact ⟨fun _ => rfl, ax_cm.rf⟩
    | exact ⟨rfl, ax_cm.nw⟩
    | exact ⟨rfl, ax_cm.nl⟩
    | exact ⟨rfl, ax_cm.mn⟩
    | exact ⟨rfl, ax_cm.cl⟩
    | (refine ax_inm_c ?_; first | exact ⟨rfl, ax_cm.rf⟩ | exact ⟨fun _ => rfl, ax_cm.rf⟩ | exact ⟨rfl, ax_cm.cl⟩)
    | (refine ax_inm_c2 ?_ (ax_inm_c ?_) <;> exact ⟨rfl, ax_cm.rf⟩)
theorem im_st_tsw {m nx a b : Nat} {n : Int32} {L : AL} {st : List AV} {h : AH} : ax_inm m h (st_tsw m a L st h) := by
  unfold st_tsw
  repeat' split
  all_goals first
    | exact trivial
    | exact ⟨rfl, ax_cm.rf⟩
    | exact ax_cm.rf
    | exact ⟨rfl, rfl, ax_cm.rf⟩
    | exact ⟨fun _ => rfl, ax_cm.rf⟩
    | exact ⟨rfl, ax_cm.nw⟩
    | exact ⟨rfl, ax_cm.nl⟩
    | exact ⟨rfl, ax_cm.mn⟩
    | exact ⟨rfl, ax_cm.cl⟩
    | (refine ax_inm_c ?_; first | exact ⟨rfl, ax_cm.rf⟩ | exact ⟨fun _ => rfl, ax_cm.rf⟩ | exact ⟨rfl, ax_cm.cl⟩)
    | (refine ax_inm_c2 ?_ (ax_inm_c ?_) <;> exact ⟨rfl, ax_cm.rf⟩)
theorem im_st_iret {m nx a b : Nat} {n : Int32} {L : AL} {st : List AV} {h : AH} : ax_inm m h (st_iret b st h) := by
  unfold st_iret
  repeat' split
  all_goals first
    | exact trivial
    | exact ⟨rfl, ax_cm.rf⟩
    | exact ax_cm.rf
    | exact ⟨rfl, rfl, ax_cm.rf⟩
    | exact ⟨fun _ => rfl, ax_cm.rf⟩
    | exact ⟨rfl, ax_cm.nw⟩
    | exact ⟨rfl, ax_cm.nl⟩
    | exact ⟨rfl, ax_cm.mn⟩
    | exact ⟨rfl, ax_cm.cl⟩
    | (refine ax_inm_c ?_; first | exact ⟨rfl, ax_cm.rf⟩ | exact ⟨fun _ => rfl, ax_cm.rf⟩ | exact ⟨rfl, ax_cm.cl⟩)
    | (refine ax_inm_c2 ?_ (ax_inm_c ?_) <;> exact ⟨rfl, ax_cm.rf⟩)
theorem im_st_lret {m nx a b : Nat} {n : Int32} {L : AL} {st : List AV} {h : AH} : ax_inm m h (st_lret  st h) := by
  unfold st_lret
  repeat' split
  all_goals first
    | exact trivial
    | exact ⟨rfl, ax_cm.rf⟩
    | exact ax_cm.rf
    | exact ⟨rfl, rfl, ax_cm.rf⟩
    | exact ⟨fun _ => rfl, ax_cm.rf⟩
    | exact ⟨rfl, ax_cm.nw⟩
    | exact ⟨rfl, ax_cm.nl⟩
    | exact ⟨rfl, ax_cm.mn⟩
    | exact ⟨rfl, ax_cm.cl⟩
    | (refine ax_inm_c ?_; first | exact ⟨rfl, ax_cm.rf⟩ | exact ⟨fun _ => rfl, ax_cm.rf⟩ | exact ⟨rfl, ax_cm.cl⟩)
    | (refine ax_inm_c2 ?_ (ax_inm_c ?_) <;> exact ⟨rfl, ax_cm.rf⟩)
theorem im_st_aret {m nx a b : Nat} {n : Int32} {L : AL} {st : List AV} {h : AH} : ax_inm m h (st_aret  st h) := by
  unfold st_aret
  repeat' split
  all_goals first
    | exact trivial
    | exact ⟨rfl, ax_cm.rf⟩
    | exact ax_cm.rf
    | exact ⟨rfl, rfl, ax_cm.rf⟩
    | exact ⟨fun _ => rfl, ax_cm.rf⟩
    | exact ⟨rfl, ax_cm.nw⟩
    | exact ⟨rfl, ax_cm.nl⟩
    | exact ⟨rfl, ax_cm.mn⟩
    | exact ⟨rfl, ax_cm.cl⟩
    | (refine ax_inm_c ?_; first | exact ⟨rfl, ax_cm.rf⟩ | exact ⟨fun _ => rfl, ax_cm.rf⟩ | exact ⟨rfl, ax_cm.cl⟩)
    | (refine ax_inm_c2 ?_ (ax_inm_c ?_) <;> exact ⟨rfl, ax_cm.rf⟩)
theorem im_st_vret {m nx a b : Nat} {n : Int32} {L : AL} {st : List AV} {h : AH} : ax_inm m h (st_vret  st h) := by
  unfold st_vret
  repeat' split
  all_goals first
    | exact trivial
    | exact ⟨rfl, ax_cm.rf⟩
    | exact ax_cm.rf
    | exact ⟨rfl, rfl, ax_cm.rf⟩
    | exact ⟨fun _ => rfl, ax_cm.rf⟩
    | exact ⟨rfl, ax_cm.nw⟩
    | exact ⟨rfl, ax_cm.nl⟩
    | exact ⟨rfl, ax_cm.mn⟩
    | exact ⟨rfl, ax_cm.cl⟩
    | (refine ax_inm_c ?_; first | exact ⟨rfl, ax_cm.rf⟩ | exact ⟨fun _ => rfl, ax_cm.rf⟩ | exact ⟨rfl, ax_cm.cl⟩)
    | (refine ax_inm_c2 ?_ (ax_inm_c ?_) <;> exact ⟨rfl, ax_cm.rf⟩)
theorem im_st_geti {m nx a b : Nat} {n : Int32} {L : AL} {st : List AV} {h : AH} : ax_inm m h (st_geti m nx a b L st h) := by
  unfold st_geti
  repeat' split
  all_goals first
    | exact trivial
    | exact ⟨rfl, ax_cm.rf⟩
    | exact ax_cm.rf
    | exact ⟨rfl, rfl, ax_cm.rf⟩
    | exact ⟨fun _ => rfl, ax_cm.rf⟩
    | exact ⟨rfl, ax_cm.nw⟩
    | exact ⟨rfl, ax_cm.nl⟩
    | exact ⟨rfl, ax_cm.mn⟩
    | exact ⟨rfl, ax_cm.cl⟩
    | (refine ax_inm_c ?_; first | exact ⟨rfl, ax_cm.rf⟩ | exact ⟨fun _ => rfl, ax_cm.rf⟩ | exact ⟨rfl, ax_cm.cl⟩)
    | (refine ax_inm_c2 ?_ (ax_inm_c ?_) <;> exact ⟨rfl, ax_cm.rf⟩)
theorem im_st_puti {m nx a b : Nat} {n : Int32} {L : AL} {st : List AV} {h : AH} : ax_inm m h (st_puti m nx a b L st h) := by
  unfold st_puti
  repeat' split
  all_goals first
    | exact trivial
    | exact ⟨rfl, ax_cm.rf⟩
    | exact ax_cm.rf
    | exact ⟨rfl, rfl, ax_cm.rf⟩
    | exact ⟨fun _ => rfl, ax_cm.rf⟩
    | exact ⟨rfl, ax_cm.nw⟩
    | exact ⟨rfl, ax_cm.nl⟩
    | exact ⟨rfl, ax_cm.mn⟩
    | exact ⟨rfl, ax_cm.cl⟩
    | (refine ax_inm_c ?_; first | exact ⟨rfl, ax_cm.rf⟩ | exact ⟨fun _ => rfl, ax_cm.rf⟩ | exact ⟨rfl, ax_cm.cl⟩)
    | (refine ax_inm_c2 ?_ (ax_inm_c ?_) <;> exact ⟨rfl, ax_cm.rf⟩)
theorem im_st_gets {m nx a b : Nat} {n : Int32} {L : AL} {st : List AV} {h : AH} : ax_inm m h (st_gets m nx a b L st h) := by
  unfold st_gets
  repeat' split
  all_goals first
    | exact trivial
    | exact ⟨rfl, ax_cm.rf⟩
    | exact ax_cm.rf
    | exact ⟨rfl, rfl, ax_cm.rf⟩
    | exact ⟨fun _ => rfl, ax_cm.rf⟩
    | exact ⟨rfl, ax_cm.nw⟩
    | exact ⟨rfl, ax_cm.nl⟩
    | exact ⟨rfl, ax_cm.mn⟩
    | exact ⟨rfl, ax_cm.cl⟩
    | (refine ax_inm_c ?_; first | exact ⟨rfl, ax_cm.rf⟩ | exact ⟨fun _ => rfl, ax_cm.rf⟩ | exact ⟨rfl, ax_cm.cl⟩)
    | (refine ax_inm_c2 ?_ (ax_inm_c ?_) <;> exact ⟨rfl, ax_cm.rf⟩)
theorem im_st_call {m nx a b : Nat} {n : Int32} {L : AL} {st : List AV} {h : AH} : ax_inm m h (st_call m nx a b L st h) := by
  unfold st_call
  repeat' split
  all_goals first
    | exact trivial
    | exact ⟨rfl, ax_cm.rf⟩
    | exact ax_cm.rf
    | exact ⟨rfl, rfl, ax_cm.rf⟩
    | exact ⟨fun _ => rfl, ax_cm.rf⟩
    | exact ⟨rfl, ax_cm.nw⟩
    | exact ⟨rfl, ax_cm.nl⟩
    | exact ⟨rfl, ax_cm.mn⟩
    | exact ⟨rfl, ax_cm.cl⟩
    | (refine ax_inm_c ?_; first | exact ⟨rfl, ax_cm.rf⟩ | exact ⟨fun _ => rfl, ax_cm.rf⟩ | exact ⟨rfl, ax_cm.cl⟩)
    | (refine ax_inm_c2 ?_ (ax_inm_c ?_) <;> exact ⟨rfl, ax_cm.rf⟩)
theorem im_st_newo {m nx a b : Nat} {n : Int32} {L : AL} {st : List AV} {h : AH} : ax_inm m h (st_newo m nx a b L st h) := by
  unfold st_newo
  repeat' split
  all_goals first
    | exact trivial
    | exact ⟨rfl, ax_cm.rf⟩
    | exact ax_cm.rf
    | exact ⟨rfl, rfl, ax_cm.rf⟩
    | exact ⟨fun _ => rfl, ax_cm.rf⟩
    | exact ⟨rfl, ax_cm.nw⟩
    | exact ⟨rfl, ax_cm.nl⟩
    | exact ⟨rfl, ax_cm.mn⟩
    | exact ⟨rfl, ax_cm.cl⟩
    | (refine ax_inm_c ?_; first | exact ⟨rfl, ax_cm.rf⟩ | exact ⟨fun _ => rfl, ax_cm.rf⟩ | exact ⟨rfl, ax_cm.cl⟩)
    | (refine ax_inm_c2 ?_ (ax_inm_c ?_) <;> exact ⟨rfl, ax_cm.rf⟩)
theorem im_st_newa {m nx a b : Nat} {n : Int32} {L : AL} {st : List AV} {h : AH} : ax_inm m h (st_newa m nx a L st h) := by
  unfold st_newa
  repeat' split
  all_goals first
    | exact trivial
    | exact ⟨rfl, ax_cm.rf⟩
    | exact ax_cm.rf
    | exact ⟨rfl, rfl, ax_cm.rf⟩
    | exact ⟨fun _ => rfl, ax_cm.rf⟩
    | exact ⟨rfl, ax_cm.nw⟩
    | exact ⟨rfl, ax_cm.nl⟩
    | exact ⟨rfl, ax_cm.mn⟩
    | exact ⟨rfl, ax_cm.cl⟩
    | (refine ax_inm_c ?_; first | exact ⟨rfl, ax_cm.rf⟩ | exact ⟨fun _ => rfl, ax_cm.rf⟩ | exact ⟨rfl, ax_cm.cl⟩)
    | (refine ax_inm_c2 ?_ (ax_inm_c ?_) <;> exact ⟨rfl, ax_cm.rf⟩)
theorem im_st_newq {m nx a b : Nat} {n : Int32} {L : AL} {st : List AV} {h : AH} : ax_inm m h (st_newq m nx a L st h) := by
  unfold st_newq
  repeat' split
  all_goals first
    | exact trivial
    | exact ⟨rfl, ax_cm.rf⟩
    | exact ax_cm.rf
    | exact ⟨rfl, rfl, ax_cm.rf⟩
    | exact ⟨fun _ => rfl, ax_cm.rf⟩
    | exact ⟨rfl, ax_cm.nw⟩
    | exact ⟨rfl, ax_cm.nl⟩
    | exact ⟨rfl, ax_cm.mn⟩
    | exact ⟨rfl, ax_cm.cl⟩
    | (refine ax_inm_c ?_; first | exact ⟨rfl, ax_cm.rf⟩ | exact ⟨fun _ => rfl, ax_cm.rf⟩ | exact ⟨rfl, ax_cm.cl⟩)
    | (refine ax_inm_c2 ?_ (ax_inm_c ?_) <;> exact ⟨rfl, ax_cm.rf⟩)
theorem im_st_newm {m nx a b : Nat} {n : Int32} {L : AL} {st : List AV} {h : AH} : ax_inm m h (st_newm m nx a b L st h) := by
  unfold st_newm
  repeat' split
  all_goals first
    | exact trivial
    | exact ⟨rfl, ax_cm.rf⟩
    | exact ax_cm.rf
    | exact ⟨rfl, rfl, ax_cm.rf⟩
    | exact ⟨fun _ => rfl, ax_cm.rf⟩
    | exact ⟨rfl, ax_cm.nw⟩
    | exact ⟨rfl, ax_cm.nl⟩
    | exact ⟨rfl, ax_cm.mn⟩
    | exact ⟨rfl, ax_cm.cl⟩
    | (refine ax_inm_c ?_; first | exact ⟨rfl, ax_cm.rf⟩ | exact ⟨fun _ => rfl, ax_cm.rf⟩ | exact ⟨rfl, ax_cm.cl⟩)
    | (refine ax_inm_c2 ?_ (ax_inm_c ?_) <;> exact ⟨rfl, ax_cm.rf⟩)
theorem im_st_alen {m nx a b : Nat} {n : Int32} {L : AL} {st : List AV} {h : AH} : ax_inm m h (st_alen m nx L st h) := by
  unfold st_alen
  repeat' split
  all_goals first
    | exact trivial
    | exact ⟨rfl, ax_cm.rf⟩
    | exact ax_cm.rf
    | exact ⟨rfl, rfl, ax_cm.rf⟩
    | exact ⟨fun _ => rfl, ax_cm.rf⟩
    | exact ⟨rfl, ax_cm.nw⟩
    | exact ⟨rfl, ax_cm.nl⟩
    | exact ⟨rfl, ax_cm.mn⟩
    | exact ⟨rfl, ax_cm.cl⟩
    | (refine ax_inm_c ?_; first | exact ⟨rfl, ax_cm.rf⟩ | exact ⟨fun _ => rfl, ax_cm.rf⟩ | exact ⟨rfl, ax_cm.cl⟩)
    | (refine ax_inm_c2 ?_ (ax_inm_c ?_) <;> exact ⟨rfl, ax_cm.rf⟩)
theorem im_st_ild {m nx a b : Nat} {n : Int32} {L : AL} {st : List AV} {h : AH} : ax_inm m h (st_ild m nx L st h) := by
  unfold st_ild
  repeat' split
  all_goals first
    | exact trivial
    | exact ⟨rfl, ax_cm.rf⟩
    | exact ax_cm.rf
    | exact ⟨rfl, rfl, ax_cm.rf⟩
    | exact ⟨fun _ => rfl, ax_cm.rf⟩
    | exact ⟨rfl, ax_cm.nw⟩
    | exact ⟨rfl, ax_cm.nl⟩
    | exact ⟨rfl, ax_cm.mn⟩
    | exact ⟨rfl, ax_cm.cl⟩
    | (refine ax_inm_c ?_; first | exact ⟨rfl, ax_cm.rf⟩ | exact ⟨fun _ => rfl, ax_cm.rf⟩ | exact ⟨rfl, ax_cm.cl⟩)
    | (refine ax_inm_c2 ?_ (ax_inm_c ?_) <;> exact ⟨rfl, ax_cm.rf⟩)
theorem im_st_ist {m nx a b : Nat} {n : Int32} {L : AL} {st : List AV} {h : AH} : ax_inm m h (st_ist m nx L st h) := by
  unfold st_ist
  repeat' split
  all_goals first
    | exact trivial
    | exact ⟨rfl, ax_cm.rf⟩
    | exact ax_cm.rf
    | exact ⟨rfl, rfl, ax_cm.rf⟩
    | exact ⟨fun _ => rfl, ax_cm.rf⟩
    | exact ⟨rfl, ax_cm.nw⟩
    | exact ⟨rfl, ax_cm.nl⟩
    | exact ⟨rfl, ax_cm.mn⟩
    | exact ⟨rfl, ax_cm.cl⟩
    | (refine ax_inm_c ?_; first | exact ⟨rfl, ax_cm.rf⟩ | exact ⟨fun _ => rfl, ax_cm.rf⟩ | exact ⟨rfl, ax_cm.cl⟩)
    | (refine ax_inm_c2 ?_ (ax_inm_c ?_) <;> exact ⟨rfl, ax_cm.rf⟩)
theorem im_st_bld {m nx a b : Nat} {n : Int32} {L : AL} {st : List AV} {h : AH} : ax_inm m h (st_bld m nx L st h) := by
  unfold st_bld
  repeat' split
  all_goals first
    | exact trivial
    | exact ⟨rfl, ax_cm.rf⟩
    | exact ax_cm.rf
    | exact ⟨rfl, rfl, ax_cm.rf⟩
    | exact ⟨fun _ => rfl, ax_cm.rf⟩
    | exact ⟨rfl, ax_cm.nw⟩
    | exact ⟨rfl, ax_cm.nl⟩
    | exact ⟨rfl, ax_cm.mn⟩
    | exact ⟨rfl, ax_cm.cl⟩
    | (refine ax_inm_c ?_; first | exact ⟨rfl, ax_cm.rf⟩ | exact ⟨fun _ => rfl, ax_cm.rf⟩ | exact ⟨rfl, ax_cm.cl⟩)
    | (refine ax_inm_c2 ?_ (ax_inm_c ?_) <;> exact ⟨rfl, ax_cm.rf⟩)
theorem im_st_bst {m nx a b : Nat} {n : Int32} {L : AL} {st : List AV} {h : AH} : ax_inm m h (st_bst m nx L st h) := by
  unfold st_bst
  repeat' split
  all_goals first
    | exact trivial
    | exact ⟨rfl, ax_cm.rf⟩
    | exact ax_cm.rf
    | exact ⟨rfl, rfl, ax_cm.rf⟩
    | exact ⟨fun _ => rfl, ax_cm.rf⟩
    | exact ⟨rfl, ax_cm.nw⟩
    | exact ⟨rfl, ax_cm.nl⟩
    | exact ⟨rfl, ax_cm.mn⟩
    | exact ⟨rfl, ax_cm.cl⟩
    | (refine ax_inm_c ?_; first | exact ⟨rfl, ax_cm.rf⟩ | exact ⟨fun _ => rfl, ax_cm.rf⟩ | exact ⟨rfl, ax_cm.cl⟩)
    | (refine ax_inm_c2 ?_ (ax_inm_c ?_) <;> exact ⟨rfl, ax_cm.rf⟩)
theorem im_st_ald {m nx a b : Nat} {n : Int32} {L : AL} {st : List AV} {h : AH} : ax_inm m h (st_ald m nx L st h) := by
  unfold st_ald
  repeat' split
  all_goals first
    | exact trivial
    | exact ⟨rfl, ax_cm.rf⟩
    | exact ax_cm.rf
    | exact ⟨rfl, rfl, ax_cm.rf⟩
    | exact ⟨fun _ => rfl, ax_cm.rf⟩
    | exact ⟨rfl, ax_cm.nw⟩
    | exact ⟨rfl, ax_cm.nl⟩
    | exact ⟨rfl, ax_cm.mn⟩
    | exact ⟨rfl, ax_cm.cl⟩
    | (refine ax_inm_c ?_; first | exact ⟨rfl, ax_cm.rf⟩ | exact ⟨fun _ => rfl, ax_cm.rf⟩ | exact ⟨rfl, ax_cm.cl⟩)
    | (refine ax_inm_c2 ?_ (ax_inm_c ?_) <;> exact ⟨rfl, ax_cm.rf⟩)
theorem im_st_ast {m nx a b : Nat} {n : Int32} {L : AL} {st : List AV} {h : AH} : ax_inm m h (st_ast m nx L st h) := by
  unfold st_ast
  repeat' split
  all_goals first
    | exact trivial
    | exact ⟨rfl, ax_cm.rf⟩
    | exact ax_cm.rf
    | exact ⟨rfl, rfl, ax_cm.rf⟩
    | exact ⟨fun _ => rfl, ax_cm.rf⟩
    | exact ⟨rfl, ax_cm.nw⟩
    | exact ⟨rfl, ax_cm.nl⟩
    | exact ⟨rfl, ax_cm.mn⟩
    | exact ⟨rfl, ax_cm.cl⟩
    | (refine ax_inm_c ?_; first | exact ⟨rfl, ax_cm.rf⟩ | exact ⟨fun _ => rfl, ax_cm.rf⟩ | exact ⟨rfl, ax_cm.cl⟩)
    | (refine ax_inm_c2 ?_ (ax_inm_c ?_) <;> exact ⟨rfl, ax_cm.rf⟩)
theorem im_st_dup {m nx a b : Nat} {n : Int32} {L : AL} {st : List AV} {h : AH} : ax_inm m h (st_dup m nx L st h) := by
  unfold st_dup
  repeat' split
  all_goals first
    | exact trivial
    | exact ⟨rfl, ax_cm.rf⟩
    | exact ax_cm.rf
    | exact ⟨rfl, rfl, ax_cm.rf⟩
    | exact ⟨fun _ => rfl, ax_cm.rf⟩
    | exact ⟨rfl, ax_cm.nw⟩
    | exact ⟨rfl, ax_cm.nl⟩
    | exact ⟨rfl, ax_cm.mn⟩
    | exact ⟨rfl, ax_cm.cl⟩
    | (refine ax_inm_c ?_; first | exact ⟨rfl, ax_cm.rf⟩ | exact ⟨fun _ => rfl, ax_cm.rf⟩ | exact ⟨rfl, ax_cm.cl⟩)
    | (refine ax_inm_c2 ?_ (ax_inm_c ?_) <;> exact ⟨rfl, ax_cm.rf⟩)
theorem im_st_dup2 {m nx a b : Nat} {n : Int32} {L : AL} {st : List AV} {h : AH} : ax_inm m h (st_dup2 m nx L st h) := by
  unfold st_dup2
  repeat' split
  all_goals first
    | exact trivial
    | exact ⟨rfl, ax_cm.rf⟩
    | exact ax_cm.rf
    | exact ⟨rfl, rfl, ax_cm.rf⟩
    | exact ⟨fun _ => rfl, ax_cm.rf⟩
    | exact ⟨rfl, ax_cm.nw⟩
    | exact ⟨rfl, ax_cm.nl⟩
    | exact ⟨rfl, ax_cm.mn⟩
    | exact ⟨rfl, ax_cm.cl⟩
    | (refine ax_inm_c ?_; first | exact ⟨rfl, ax_cm.rf⟩ | exact ⟨fun _ => rfl, ax_cm.rf⟩ | exact ⟨rfl, ax_cm.cl⟩)
    | (refine ax_inm_c2 ?_ (ax_inm_c ?_) <;> exact ⟨rfl, ax_cm.rf⟩)
theorem im_st_pop {m nx a b : Nat} {n : Int32} {L : AL} {st : List AV} {h : AH} : ax_inm m h (st_pop m nx L st h) := by
  unfold st_pop
  repeat' split
  all_goals first
    | exact trivial
    | exact ⟨rfl, ax_cm.rf⟩
    | exact ax_cm.rf
    | exact ⟨rfl, rfl, ax_cm.rf⟩
    | exact ⟨fun _ => rfl, ax_cm.rf⟩
    | exact ⟨rfl, ax_cm.nw⟩
    | exact ⟨rfl, ax_cm.nl⟩
    | exact ⟨rfl, ax_cm.mn⟩
    | exact ⟨rfl, ax_cm.cl⟩
    | (refine ax_inm_c ?_; first | exact ⟨rfl, ax_cm.rf⟩ | exact ⟨fun _ => rfl, ax_cm.rf⟩ | exact ⟨rfl, ax_cm.cl⟩)
    | (refine ax_inm_c2 ?_ (ax_inm_c ?_) <;> exact ⟨rfl, ax_cm.rf⟩)
theorem im_st_oin {m nx a b : Nat} {n : Int32} {L : AL} {st : List AV} {h : AH} : ax_inm m h (st_oin m nx L st h) := by
  unfold st_oin
  repeat' split
  all_goals first
    | exact trivial
    | exact ⟨rfl, ax_cm.rf⟩
    | exact ax_cm.rf
    | exact ⟨rfl, rfl, ax_cm.rf⟩
    | exact ⟨fun _ => rfl, ax_cm.rf⟩
    | exact ⟨rfl, ax_cm.nw⟩
    | exact ⟨rfl, ax_cm.nl⟩
    | exact ⟨rfl, ax_cm.mn⟩
    | exact ⟨rfl, ax_cm.cl⟩
    | (refine ax_inm_c ?_; first | exact ⟨rfl, ax_cm.rf⟩ | exact ⟨fun _ => rfl, ax_cm.rf⟩ | exact ⟨rfl, ax_cm.cl⟩)
    | (refine ax_inm_c2 ?_ (ax_inm_c ?_) <;> exact ⟨rfl, ax_cm.rf⟩)
theorem im_st_acp {m nx a b : Nat} {n : Int32} {L : AL} {st : List AV} {h : AH} : ax_inm m h (st_acp m nx L st h) := by
  unfold st_acp
  repeat' split
  all_goals first
    | exact trivial
    | exact ⟨rfl, ax_cm.rf⟩
    | exact ax_cm.rf
    | exact ⟨rfl, rfl, ax_cm.rf⟩
    | exact ⟨fun _ => rfl, ax_cm.rf⟩
    | exact ⟨rfl, ax_cm.nw⟩
    | exact ⟨rfl, ax_cm.nl⟩
    | exact ⟨rfl, ax_cm.mn⟩
    | exact ⟨rfl, ax_cm.cl⟩
    | (refine ax_inm_c ?_; first | exact ⟨rfl, ax_cm.rf⟩ | exact ⟨fun _ => rfl, ax_cm.rf⟩ | exact ⟨rfl, ax_cm.cl⟩)
    | (refine ax_inm_c2 ?_ (ax_inm_c ?_) <;> exact ⟨rfl, ax_cm.rf⟩)
theorem im_st_clo {m nx a b : Nat} {n : Int32} {L : AL} {st : List AV} {h : AH} : ax_inm m h (st_clo m nx a L st h) := by
  unfold st_clo
  repeat' split
  all_goals first
    | exact trivial
    | exact ⟨rfl, ax_cm.rf⟩
    | exact ax_cm.rf
    | exact ⟨rfl, rfl, ax_cm.rf⟩
    | exact ⟨fun _ => rfl, ax_cm.rf⟩
    | exact ⟨rfl, ax_cm.nw⟩
    | exact ⟨rfl, ax_cm.nl⟩
    | exact ⟨rfl, ax_cm.mn⟩
    | exact ⟨rfl, ax_cm.cl⟩
    | (refine ax_inm_c ?_; first | exact ⟨rfl, ax_cm.rf⟩ | exact ⟨fun _ => rfl, ax_cm.rf⟩ | exact ⟨rfl, ax_cm.cl⟩)
    | (refine ax_inm_c2 ?_ (ax_inm_c ?_) <;> exact ⟨rfl, ax_cm.rf⟩)
theorem im_st_cas {m nx a b : Nat} {n : Int32} {L : AL} {st : List AV} {h : AH} : ax_inm m h (st_cas m nx L st h) := by
  unfold st_cas
  repeat' split
  all_goals first
    | exact trivial
    | exact ⟨rfl, ax_cm.rf⟩
    | exact ax_cm.rf
    | exact ⟨rfl, rfl, ax_cm.rf⟩
    | exact ⟨fun _ => rfl, ax_cm.rf⟩
    | exact ⟨rfl, ax_cm.nw⟩
    | exact ⟨rfl, ax_cm.nl⟩
    | exact ⟨rfl, ax_cm.mn⟩
    | exact ⟨rfl, ax_cm.cl⟩
    | (refine ax_inm_c ?_; first | exact ⟨rfl, ax_cm.rf⟩ | exact ⟨fun _ => rfl, ax_cm.rf⟩ | exact ⟨rfl, ax_cm.cl⟩)
    | (refine ax_inm_c2 ?_ (ax_inm_c ?_) <;> exact ⟨rfl, ax_cm.rf⟩)
theorem im_st_getr {m nx a b : Nat} {n : Int32} {L : AL} {st : List AV} {h : AH} : ax_inm m h (st_getr m nx a b L st h) := by
  unfold st_getr
  repeat' split
  all_goals first
    | exact trivial
    | exact ⟨rfl, ax_cm.rf⟩
    | exact ax_cm.rf
    | exact ⟨rfl, rfl, ax_cm.rf⟩
    | exact ⟨fun _ => rfl, ax_cm.rf⟩
    | exact ⟨rfl, ax_cm.nw⟩
    | exact ⟨rfl, ax_cm.nl⟩
    | exact ⟨rfl, ax_cm.mn⟩
    | exact ⟨rfl, ax_cm.cl⟩
    | (refine ax_inm_c ?_; first | exact ⟨rfl, ax_cm.rf⟩ | exact ⟨fun _ => rfl, ax_cm.rf⟩ | exact ⟨rfl, ax_cm.cl⟩)
    | (refine ax_inm_c2 ?_ (ax_inm_c ?_) <;> exact ⟨rfl, ax_cm.rf⟩)
theorem im_st_getf {m nx a b : Nat} {n : Int32} {L : AL} {st : List AV} {h : AH} : ax_inm m h (st_getf m nx a b L st h) := by
  unfold st_getf
  repeat' split
  all_goals first
    | exact trivial
    | exact ⟨rfl, ax_cm.rf⟩
    | exact ax_cm.rf
    | exact ⟨rfl, rfl, ax_cm.rf⟩
    | exact ⟨fun _ => rfl, ax_cm.rf⟩
    | exact ⟨rfl, ax_cm.nw⟩
    | exact ⟨rfl, ax_cm.nl⟩
    | exact ⟨rfl, ax_cm.mn⟩
    | exact ⟨rfl, ax_cm.cl⟩
    | (refine ax_inm_c ?_; first | exact ⟨rfl, ax_cm.rf⟩ | exact ⟨fun _ => rfl, ax_cm.rf⟩ | exact ⟨rfl, ax_cm.cl⟩)
    | (refine ax_inm_c2 ?_ (ax_inm_c ?_) <;> exact ⟨rfl, ax_cm.rf⟩)
theorem im_st_getd {m nx a b : Nat} {n : Int32} {L : AL} {st : List AV} {h : AH} : ax_inm m h (st_getd m nx a b L st h) := by
  unfold st_getd
  repeat' split
  all_goals first
    | exact trivial
    | exact ⟨rfl, ax_cm.rf⟩
    | exact ax_cm.rf
    | exact ⟨rfl, rfl, ax_cm.rf⟩
    | exact ⟨fun _ => rfl, ax_cm.rf⟩
    | exact ⟨rfl, ax_cm.nw⟩
    | exact ⟨rfl, ax_cm.nl⟩
    | exact ⟨rfl, ax_cm.mn⟩
    | exact ⟨rfl, ax_cm.cl⟩
    | (refine ax_inm_c ?_; first | exact ⟨rfl, ax_cm.rf⟩ | exact ⟨fun _ => rfl, ax_cm.rf⟩ | exact ⟨rfl, ax_cm.cl⟩)
    | (refine ax_inm_c2 ?_ (ax_inm_c ?_) <;> exact ⟨rfl, ax_cm.rf⟩)
theorem im_st_putz {m nx a b : Nat} {n : Int32} {L : AL} {st : List AV} {h : AH} : ax_inm m h (st_putz m nx a b L st h) := by
  unfold st_putz
  repeat' split
  all_goals first
    | exact trivial
    | exact ⟨rfl, ax_cm.rf⟩
    | exact ax_cm.rf
    | exact ⟨rfl, rfl, ax_cm.rf⟩
    | exact ⟨fun _ => rfl, ax_cm.rf⟩
    | exact ⟨rfl, ax_cm.nw⟩
    | exact ⟨rfl, ax_cm.nl⟩
    | exact ⟨rfl, ax_cm.mn⟩
    | exact ⟨rfl, ax_cm.cl⟩
    | (refine ax_inm_c ?_; first | exact ⟨rfl, ax_cm.rf⟩ | exact ⟨fun _ => rfl, ax_cm.rf⟩ | exact ⟨rfl, ax_cm.cl⟩)
    | (refine ax_inm_c2 ?_ (ax_inm_c ?_) <;> exact ⟨rfl, ax_cm.rf⟩)
theorem im_st_putr {m nx a b : Nat} {n : Int32} {L : AL} {st : List AV} {h : AH} : ax_inm m h (st_putr m nx a b L st h) := by
  unfold st_putr
  repeat' split
  all_goals first
    | exact trivial
    | exact ⟨rfl, ax_cm.rf⟩
    | exact ax_cm.rf
    | exact ⟨rfl, rfl, ax_cm.rf⟩
    | exact ⟨fun _ => rfl, ax_cm.rf⟩
    | exact ⟨rfl, ax_cm.nw⟩
    | exact ⟨rfl, ax_cm.nl⟩
    | exact ⟨rfl, ax_cm.mn⟩
    | exact ⟨rfl, ax_cm.cl⟩
    | (refine ax_inm_c ?_; first | exact ⟨rfl, ax_cm.rf⟩ | exact ⟨fun _ => rfl, ax_cm.rf⟩ | exact ⟨rfl, ax_cm.cl⟩)
    | (refine ax_inm_c2 ?_ (ax_inm_c ?_) <;> exact ⟨rfl, ax_cm.rf⟩)
theorem im_st_alf {m nx a b : Nat} {n : Int32} {L : AL} {st : List AV} {h : AH} : ax_inm m h (st_alf m nx L st h) := by
  unfold st_alf
  repeat' split
  all_goals first
    | exact trivial
    | exact ⟨rfl, ax_cm.rf⟩
    | exact ax_cm.rf
    | exact ⟨rfl, rfl, ax_cm.rf⟩
    | exact ⟨fun _ => rfl, ax_cm.rf⟩
    | exact ⟨rfl, ax_cm.nw⟩
    | exact ⟨rfl, ax_cm.nl⟩
    | exact ⟨rfl, ax_cm.mn⟩
    | exact ⟨rfl, ax_cm.cl⟩
    | (refine ax_inm_c ?_; first | exact ⟨rfl, ax_cm.rf⟩ | exact ⟨fun _ => rfl, ax_cm.rf⟩ | exact ⟨rfl, ax_cm.cl⟩)
    | (refine ax_inm_c2 ?_ (ax_inm_c ?_) <;> exact ⟨rfl, ax_cm.rf⟩)
theorem im_st_callv {m nx a b : Nat} {n : Int32} {L : AL} {st : List AV} {h : AH} : ax_inm m h (st_callv m nx a b L st h) := by
  unfold st_callv
  repeat' split
  all_goals first
    | exact trivial
    | exact ⟨rfl, ax_cm.rf⟩
    | exact ax_cm.rf
    | exact ⟨rfl, rfl, ax_cm.rf⟩
    | exact ⟨fun _ => rfl, ax_cm.rf⟩
    | exact ⟨rfl, ax_cm.nw⟩
    | exact ⟨rfl, ax_cm.nl⟩
    | exact ⟨rfl, ax_cm.mn⟩
    | exact ⟨rfl, ax_cm.cl⟩
    | (refine ax_inm_c ?_; first | exact ⟨rfl, ax_cm.rf⟩ | exact ⟨fun _ => rfl, ax_cm.rf⟩ | exact ⟨rfl, ax_cm.cl⟩)
    | (refine ax_inm_c2 ?_ (ax_inm_c ?_) <;> exact ⟨rfl, ax_cm.rf⟩)
theorem im_st_mm {m nx a b : Nat} {n : Int32} {L : AL} {st : List AV} {h : AH} : ax_inm m h (st_mm m nx b L st h) := by
  unfold st_mm
  repeat' split
  all_goals first
    | exact trivial
    | exact ⟨rfl, ax_cm.rf⟩
    | exact ax_cm.rf
    | exact ⟨rfl, rfl, ax_cm.rf⟩
    | exact ⟨fun _ => rfl, ax_cm.rf⟩
    | exact ⟨rfl, ax_cm.nw⟩
    | exact ⟨rfl, ax_cm.nl⟩
    | exact ⟨rfl, ax_cm.mn⟩
    | exact ⟨rfl, ax_cm.cl⟩
    | (refine ax_inm_c ?_; first | exact ⟨rfl, ax_cm.rf⟩ | exact ⟨fun _ => rfl, ax_cm.rf⟩ | exact ⟨rfl, ax_cm.cl⟩)
    | (refine ax_inm_c2 ?_ (ax_inm_c ?_) <;> exact ⟨rfl, ax_cm.rf⟩)
theorem im_st_lsh {m nx a b : Nat} {n : Int32} {L : AL} {st : List AV} {h : AH} : ax_inm m h (st_lsh m nx b L st h) := by
  unfold st_lsh
  repeat' split
  all_goals first
    | exact trivial
    | exact ⟨rfl, ax_cm.rf⟩
    | exact ax_cm.rf
    | exact ⟨rfl, rfl, ax_cm.rf⟩
    | exact ⟨fun _ => rfl, ax_cm.rf⟩
    | exact ⟨rfl, ax_cm.nw⟩
    | exact ⟨rfl, ax_cm.nl⟩
    | exact ⟨rfl, ax_cm.mn⟩
    | exact ⟨rfl, ax_cm.cl⟩
    | (refine ax_inm_c ?_; first | exact ⟨rfl, ax_cm.rf⟩ | exact ⟨fun _ => rfl, ax_cm.rf⟩ | exact ⟨rfl, ax_cm.cl⟩)
    | (refine ax_inm_c2 ?_ (ax_inm_c ?_) <;> exact ⟨rfl, ax_cm.rf⟩)
theorem im_st_lld {m nx a b : Nat} {n : Int32} {L : AL} {st : List AV} {h : AH} : ax_inm m h (st_lld m nx L st h) := by
  unfold st_lld
  repeat' split
  all_goals first
    | exact trivial
    | exact ⟨rfl, ax_cm.rf⟩
    | exact ax_cm.rf
    | exact ⟨rfl, rfl, ax_cm.rf⟩
    | exact ⟨fun _ => rfl, ax_cm.rf⟩
    | exact ⟨rfl, ax_cm.nw⟩
    | exact ⟨rfl, ax_cm.nl⟩
    | exact ⟨rfl, ax_cm.mn⟩
    | exact ⟨rfl, ax_cm.cl⟩
    | (refine ax_inm_c ?_; first | exact ⟨rfl, ax_cm.rf⟩ | exact ⟨fun _ => rfl, ax_cm.rf⟩ | exact ⟨rfl, ax_cm.cl⟩)
    | (refine ax_inm_c2 ?_ (ax_inm_c ?_) <;> exact ⟨rfl, ax_cm.rf⟩)
theorem im_st_lst {m nx a b : Nat} {n : Int32} {L : AL} {st : List AV} {h : AH} : ax_inm m h (st_lst m nx L st h) := by
  unfold st_lst
  repeat' split
  all_goals first
    | exact trivial
    | exact ⟨rfl, ax_cm.rf⟩
    | exact ax_cm.rf
    | exact ⟨rfl, rfl, ax_cm.rf⟩
    | exact ⟨fun _ => rfl, ax_cm.rf⟩
    | exact ⟨rfl, ax_cm.nw⟩
    | exact ⟨rfl, ax_cm.nl⟩
    | exact ⟨rfl, ax_cm.mn⟩
    | exact ⟨rfl, ax_cm.cl⟩
    | (refine ax_inm_c ?_; first | exact ⟨rfl, ax_cm.rf⟩ | exact ⟨fun _ => rfl, ax_cm.rf⟩ | exact ⟨rfl, ax_cm.cl⟩)
    | (refine ax_inm_c2 ?_ (ax_inm_c ?_) <;> exact ⟨rfl, ax_cm.rf⟩)
theorem im_st_newl {m nx a b : Nat} {n : Int32} {L : AL} {st : List AV} {h : AH} : ax_inm m h (st_newl m nx a L st h) := by
  unfold st_newl
  repeat' split
  all_goals first
    | exact trivial
    | exact ⟨rfl, ax_cm.rf⟩
    | exact ax_cm.rf
    | exact ⟨rfl, rfl, ax_cm.rf⟩
    | exact ⟨fun _ => rfl, ax_cm.rf⟩
    | exact ⟨rfl, ax_cm.nw⟩
    | exact ⟨rfl, ax_cm.nl⟩
    | exact ⟨rfl, ax_cm.mn⟩
    | exact ⟨rfl, ax_cm.cl⟩
    | (refine ax_inm_c ?_; first | exact ⟨rfl, ax_cm.rf⟩ | exact ⟨fun _ => rfl, ax_cm.rf⟩ | exact ⟨rfl, ax_cm.cl⟩)
    | (refine ax_inm_c2 ?_ (ax_inm_c ?_) <;> exact ⟨rfl, ax_cm.rf⟩)
theorem im_st_ald2 {m nx a b : Nat} {n : Int32} {L : AL} {st : List AV} {h : AH} : ax_inm m h (st_ald2 m nx L st h) := by
  unfold st_ald2
  repeat' split
  all_goals first
    | exact trivial
    | exact ⟨rfl, ax_cm.rf⟩
    | exact ax_cm.rf
    | exact ⟨rfl, rfl, ax_cm.rf⟩
    | exact ⟨fun _ => rfl, ax_cm.rf⟩
    | exact ⟨rfl, ax_cm.nw⟩
    | exact ⟨rfl, ax_cm.nl⟩
    | exact ⟨rfl, ax_cm.mn⟩
    | exact ⟨rfl, ax_cm.cl⟩
    | (refine ax_inm_c ?_; first | exact ⟨rfl, ax_cm.rf⟩ | exact ⟨fun _ => rfl, ax_cm.rf⟩ | exact ⟨rfl, ax_cm.cl⟩)
    | (refine ax_inm_c2 ?_ (ax_inm_c ?_) <;> exact ⟨rfl, ax_cm.rf⟩)
theorem ax_st_m (e : AI) {m : Nat} {L : AL} {st : List AV} {h : AH} : ax_inm m h (ax_st e m L st h) := by
  obtain ⟨op, nx, a, b, n⟩ := e
  match op with
  | 0 => exact ⟨rfl, ax_cm.rf⟩
  | 1 => exact ⟨rfl, ax_cm.rf⟩
  | 2 => exact im_st_load (nx := nx) (a := a) (b := b) (n := n)
  | 3 => exact im_st_store (nx := nx) (a := a) (b := b) (n := n)
  | 4 => exact im_st_iinc (nx := nx) (a := a) (b := b) (n := n)
  | 5 => exact im_st_ib (nx := nx) (a := a) (b := b) (n := n)
  | 6 => exact im_st_id (nx := nx) (a := a) (b := b) (n := n)
  | 7 => exact im_st_lb (nx := nx) (a := a) (b := b) (n := n)
  | 8 => exact im_st_ld (nx := nx) (a := a) (b := b) (n := n)
  | 9 => exact im_st_iu (nx := nx) (a := a) (b := b) (n := n)
  | 10 => exact im_st_i2l (nx := nx) (a := a) (b := b) (n := n)
  | 11 => exact im_st_l2i (nx := nx) (a := a) (b := b) (n := n)
  | 12 => exact im_st_lcmp (nx := nx) (a := a) (b := b) (n := n)
  | 13 => exact im_st_if (nx := nx) (a := a) (b := b) (n := n)
  | 14 => exact im_st_ic (nx := nx) (a := a) (b := b) (n := n)
  | 15 => exact im_st_nul (nx := nx) (a := a) (b := b) (n := n)
  | 16 => exact ⟨rfl, ax_cm.rf⟩
  | 17 => exact im_st_tsw (nx := nx) (a := a) (b := b) (n := n)
  | 18 => exact im_st_iret (nx := nx) (a := a) (n := n) (L := L)
  | 19 => exact im_st_lret (nx := nx) (a := a) (b := b) (n := n) (L := L)
  | 20 => exact im_st_aret (nx := nx) (a := a) (b := b) (n := n) (L := L)
  | 21 => exact im_st_vret (nx := nx) (a := a) (b := b) (n := n) (L := L)
  | 22 => exact im_st_geti (nx := nx) (a := a) (b := b) (n := n)
  | 23 => exact im_st_puti (nx := nx) (a := a) (b := b) (n := n)
  | 24 => exact im_st_gets (nx := nx) (a := a) (b := b) (n := n)
  | 25 => exact im_st_call (nx := nx) (a := a) (b := b) (n := n)
  | 26 => exact im_st_newo (nx := nx) (a := a) (b := b) (n := n)
  | 27 => exact im_st_newa (nx := nx) (a := a) (b := b) (n := n)
  | 28 => exact im_st_newq (nx := nx) (a := a) (b := b) (n := n)
  | 29 => exact im_st_newm (nx := nx) (a := a) (b := b) (n := n)
  | 30 => exact im_st_alen (nx := nx) (a := a) (b := b) (n := n)
  | 31 => exact im_st_ild (nx := nx) (a := a) (b := b) (n := n)
  | 32 => exact im_st_ist (nx := nx) (a := a) (b := b) (n := n)
  | 33 => exact im_st_bld (nx := nx) (a := a) (b := b) (n := n)
  | 34 => exact im_st_bst (nx := nx) (a := a) (b := b) (n := n)
  | 35 => exact im_st_ald (nx := nx) (a := a) (b := b) (n := n)
  | 36 => exact im_st_ast (nx := nx) (a := a) (b := b) (n := n)
  | 37 => exact im_st_dup (nx := nx) (a := a) (b := b) (n := n)
  | 38 => exact im_st_dup2 (nx := nx) (a := a) (b := b) (n := n)
  | 39 => exact im_st_pop (nx := nx) (a := a) (b := b) (n := n)
  | 40 => exact ⟨rfl, ax_cm.rf⟩
  | 41 => exact ⟨rfl, ax_cm.rf⟩
  | 42 => exact im_st_oin (nx := nx) (a := a) (b := b) (n := n)
  | 43 => exact im_st_acp (nx := nx) (a := a) (b := b) (n := n)
  | 44 => exact im_st_clo (nx := nx) (a := a) (b := b) (n := n)
  | 45 => exact im_st_cas (nx := nx) (a := a) (b := b) (n := n)
  | 46 => exact im_st_getr (nx := nx) (a := a) (b := b) (n := n)
  | 47 => exact im_st_getf (nx := nx) (a := a) (b := b) (n := n)
  | 48 => exact im_st_getd (nx := nx) (a := a) (b := b) (n := n)
  | 49 => exact im_st_putz (nx := nx) (a := a) (b := b) (n := n)
  | 50 => exact im_st_putr (nx := nx) (a := a) (b := b) (n := n)
  | 51 => exact im_st_alf (nx := nx) (a := a) (b := b) (n := n)
  | 52 => exact im_st_callv (nx := nx) (a := a) (b := b) (n := n)
  | 53 => exact im_st_mm (nx := nx) (a := a) (b := b) (n := n)
  | 54 => exact im_st_lsh (nx := nx) (a := a) (b := b) (n := n)
  | 55 => exact im_st_lld (nx := nx) (a := a) (b := b) (n := n)
  | 56 => exact im_st_lst (nx := nx) (a := a) (b := b) (n := n)
  | 57 => exact im_st_newl (nx := nx) (a := a) (b := b) (n := n)
  | 58 => exact im_st_ald2 (nx := nx) (a := a) (b := b) (n := n)
  | k + 59 => exact trivial

/-- of the same method, and counted -/
theorem ax_op_m {C : AC} {m : Nat} {h : AH} {x : Option AN} {K : AF → AH → Prop} {Q : Option AV → AH → Prop} (hm : ax_mono C) (hx : ax_inm m h x) (ho : ax_op C x K Q) : ax_op C x (fun f h' => f.1 = m ∧ K f h') Q := by
  match x, hx, ho with
  | some (.inl (f, h)), h1, h2 => exact ⟨h1.1, h2⟩
  | some (.inr (.inl (P, f, h))), h1, h2 => exact ⟨h2.1, h1.1, h2.2⟩
  | some (.inr (.inr (.inl (r, h)))), h1, h2 => exact h2
  | some (.inr (.inr (.inr (.inl (P, r, h))))), h1, h2 => exact h2
  | some (.inr (.inr (.inr (.inr (.inl (y, as, F, h)))))), h1, h2 => exact hm _ _ _ _ _ (fun r h' q => ⟨h1.1 r, q⟩) h2
  | some (.inr (.inr (.inr (.inr (.inr (P, f, g, h)))))), h1, h2 => exact ⟨fun q => ⟨h1.1, h2.1 q⟩, fun q => ⟨h1.2.1, h2.2 q⟩⟩
def ax_cnt (C : AC) : Prop := ∀ y as h r h', C y as h (fun r' h'' => r' = r ∧ h'' = h') → ax_cm h h'
theorem ax_run_cnt {C : AC} (hd : ax_det C) (hC : ax_cnt C) : ∀ (n : Nat) (f : AF) (h : AH) (r : Option AV) (h' : AH), ax_run C n f h (fun r' h'' => r' = r ∧ h'' = h') → ax_cm h h'
  | 0, _, _, _, _, h1 => h1.elim
  | n + 1, f, h, r, h', h1 => by
    have ih := ax_run_cnt hd hC n
    obtain ⟨m, pc, L, st⟩ := f
    have hx := ax_st_m (ax_ft m pc) (m := m) (L := L) (st := st) (h := h)
    change ax_op C (ax_st (ax_ft m pc) m L st h) (fun f' h'' => ax_run C n f' h'' (fun r' h'' => r' = r ∧ h'' = h')) (fun r' h'' => r' = r ∧ h'' = h') at h1
    generalize ax_st (ax_ft m pc) m L st h = x at h1 hx
    match x, hx, h1 with
    | some (.inl (f, h2)), q, h1 => exact q.2.tr (ih _ _ _ _ h1)
    | some (.inr (.inl (P, f, h2))), q, h1 => exact q.2.tr (ih _ _ _ _ h1.2)
    | some (.inr (.inr (.inl (r2, h2)))), q, h1 => exact h1.2 ▸ q
    | some (.inr (.inr (.inr (.inl (P, r2, h2))))), q, h1 => exact h1.2.2 ▸ q
    | some (.inr (.inr (.inr (.inr (.inl (y, as, F, h2)))))), q, h1 =>
      obtain ⟨r3, h3, a, b⟩ := hd _ _ _ _ h1
      exact (q.2.tr (hC _ _ _ _ _ (b _ ⟨rfl, rfl⟩))).tr (ih _ _ _ _ a)
    | some (.inr (.inr (.inr (.inr (.inr (P, f, g, h2)))))), q, h1 =>
      by_cases hP : P
      · exact q.2.2.tr (ih _ _ _ _ (h1.1 hP))
      · exact q.2.2.tr (ih _ _ _ _ (h1.2 hP))
theorem ax_call_cnt : ∀ d : Nat, ax_cnt (ax_call d)
  | 0 => fun _ _ _ _ _ h => h.elim
  | d + 1 => fun y as h r h' h1 => by
    obtain ⟨n, h1⟩ := h1
    exact ax_run_cnt (ax_call_det d) (ax_call_cnt d) n _ _ _ _ h1
