section SND
variable {p : Program} {l : Launch} {e : Env} {R : Room} {s : State} {mM : MethodId} {args : Array Value} {below : List Frame} {meth : Method} {c : Code} {QF : State → Prop} {D : va_G} {dA : Nat → ClassId} {Hb : Heap} {h0 hF hS : AH} {ro ρ0 : Nat → Nat → Nat} {d m : Nat} {Q0 : Option AV → AH → Prop}

/-- a field is read -/
theorem ax_wget (X : ax_cx p l e R s mM args below meth c D dA Hb h0 ro d m hF hS) {pc : Nat} {ls : Array Slot} {ρ : Nat → Nat → Nat} {h : AH} {H : Heap} {locs : List Loc} {cells slots : Nat}  (hw : ax_wd D dA Hb h0 ro ρ h H) {t o a b : Nat} {n : Int32} {q : Bool} {rest : List Value} (hoc : ax_oc t a = true) (ho : o < h.2.2.1 t) (hsf : ax_sf m a b n q = true) (hd : decode (ax_bc m) pc = .ok (.getfield (ax_fl n.toNatClampNeg).2.1, 3))
    (k : W p l e R s mM args below meth c H locs cells slots QF (F0 mM (pc + 3) ls (ax_fval ρ h t o a b :: rest))) : W p l e R s mM args below meth c H locs cells slots QF (F0 mM pc ls (.ref (ρ t o) :: rest)) := by
  obtain ⟨hx, hb, hml, hown, hts, henv, hnm, hsb, hrm, hm⟩ := X
  obtain ⟨hlink, hcn, hbN, hfr⟩ := ax_sf_use hsf
  unfold ax_oc at hoc
  rw [Bool.and_eq_true, Bool.or_eq_true] at hoc
  obtain ⟨hk, hc⟩ := hoc
  have hc := Nat.eq_of_beq_eq_true hc
  rcases hk with hk | hk
  · have hk := Nat.eq_of_beq_eq_true hk
    have ha : a < 13 := by rw [← hc]; exact ax_sk0_lt hk
    obtain ⟨hin, -, -, -, hT, -⟩ := ax_cl_use ha
    obtain ⟨cell, q1, q2, q3, q4⟩ := (hw.1 t o (by unfold ax_own; omega) ho).1.1 hk
    rw [hc] at q4
    obtain ⟨hS, hfc, kC, hkC, hkind⟩ := henv.1.1 a _ (ax_cls_get ha)
    obtain ⟨cf, kf, fi, f, hi, hsl⟩ := hS b hbN
    have hi2 : s.fieldFound? (ax_cn a) (ax_T a b).2.1 (ax_T a b).2.2.1 = some (cf, kf, fi, f) := by rw [hcn]; exact hi
    refine W.getf hx hb hown (hts _ hlink) hi2 (u_facts hfc hkC (u_lays hts hin hbN) hi).1 q1 (by rw [q3]; exact fun h => by cases h) (v := ax_fval ρ h t o a b) ?_ rfl rfl hd k
    rw [hsl]
    exact q4 b hbN
  · have hk := Nat.eq_of_beq_eq_true hk
    obtain ⟨rfl, h13⟩ := ax_sk3 hk
    have ha : a = 13 := by rw [← hc]; exact h13
    subst ha
    obtain ⟨g1, g2, g3, g4⟩ := hw.2.2.2.2.1 x_str ax_no_str
    rw [g3] at ho
    have kept : ∀ q : Nat, q < Hb.size → ¬ ax_A Hb q → H[q]? = Hb[q]? := fun q hq _ => hw.2.2.2.1.2 q hq
    have hb2 : b < 2 := hbN
    match b, hb2, hlink, k with
    | 0, _, hlink, k =>
      obtain ⟨cf, kf, i, f, cell, e1, e2, e3, e4, e5, e6⟩ := ((henv.2.2.2.1 o ho).2.1).kept kept
      rw [← hw.2.2.2.2.2 x_str o ax_no_str] at e3
      refine W.getf hx hb hown (hts _ hlink) e1 e2 e3 e4 (v := ax_fval ρ h x_str o 13 0) ?_ rfl rfl hd k
      rw [e5]
      show some (Value.int (h0.1 x_str o 0)) = some (Value.int (h.1 x_str o 0))
      rw [g1]
    | 1, _, hlink, k =>
      obtain ⟨cf, kf, i, f, cell, e1, e2, e3, e4, e5, e6⟩ := ((henv.2.2.2.1 o ho).2.2).kept kept
      rw [← hw.2.2.2.2.2 x_str o ax_no_str] at e3
      refine W.getf hx hb hown (hts _ hlink) e1 e2 e3 e4 (v := ax_fval ρ h x_str o 13 1) ?_ rfl rfl hd k
      rw [e5]
      show some (ax_rv ro (h0.2.1 x_str o 1)) = some (ax_rv ρ (h.2.1 x_str o 1))
      rw [g2]
      congr 1
      exact ax_rv_congr (fun t b e => (hw.2.2.2.2.2 t b (henv.2.2.2.2.2.1.2.2.2.1 o 1 t b e)).symm)
theorem ax_s22 (X : ax_cx p l e R s mM args below meth c D dA Hb h0 ro d m hF hS) {nx a b : Nat} {n : Int32} {pc : Nat} {L : AL} {st : List AV} {h : AH} (hd : decode (ax_bc m) pc = .ok (ax_enc pc (22, nx, a, b, n), nx - pc)) (hs : ax_side m pc (22, nx, a, b, n) = true) (ho : ax_op (ax_call d) (ax_st (22, nx, a, b, n) m L st h) (ax_gd p l e R s mM args below meth c QF D dA Hb h0 ro ρ0 hF hS m) Q0) : ax_gd p l e R s mM args below meth c QF D dA Hb h0 ro ρ0 hF hS m (m, pc, L, st) h := by
  obtain ⟨hx, hb, hml, hown, hts, henv, hnm, hsb, hrm, hm⟩ := X
  change ax_op (ax_call d) (st_geti m nx a b L st h) (ax_gd p l e R s mM args below meth c QF D dA Hb h0 ro ρ0 hF hS m) Q0 at ho
  simp only [ax_side, Bool.and_eq_true] at hs
  obtain ⟨h1, h2⟩ := hs
  obtain rfl := ax_nxt h1
  rw [Nat.add_sub_cancel_left] at hd
  match st, ho with
  | .inr (.inr (some (t, o))) :: st, ho =>
    unfold st_geti at ho
    dsimp only at ho
    cases hoc : ax_oc t a with
    | false => rw [hoc] at ho; exact ho.elim
    | true =>
      rw [hoc] at ho
      have ho : ax_gd p l e R s mM args below meth c QF D dA Hb h0 ro ρ0 hF hS m (m, pc + 3, L, .inl (h.1 t o b) :: st) h := ho
      refine ⟨rfl, ho.2.1, fun ρ H locs ls S => ?_⟩
      obtain ⟨S1, S2, S3, S4, S5, S6⟩ := S
      obtain ⟨hal, S5⟩ := ax_fm1 S5
      have hlt := hal t o rfl
      have hfr := (ax_sf_use h2).2.2.2
      have k := ho.2.2 ρ H locs ls ⟨S1, S2, S3, S4, ax_fm ax_al_i S5, S6⟩
      refine ax_wget ⟨hx, hb, hml, hown, hts, henv, hnm, hsb, hrm, hm⟩ S1 hoc hlt h2 hd ?_
      unfold ax_fval
      rw [hfr]
      exact k
theorem ax_s46 (X : ax_cx p l e R s mM args below meth c D dA Hb h0 ro d m hF hS) {nx a b : Nat} {n : Int32} {pc : Nat} {L : AL} {st : List AV} {h : AH} (hd : decode (ax_bc m) pc = .ok (ax_enc pc (46, nx, a, b, n), nx - pc)) (hs : ax_side m pc (46, nx, a, b, n) = true) (ho : ax_op (ax_call d) (ax_st (46, nx, a, b, n) m L st h) (ax_gd p l e R s mM args below meth c QF D dA Hb h0 ro ρ0 hF hS m) Q0) : ax_gd p l e R s mM args below meth c QF D dA Hb h0 ro ρ0 hF hS m (m, pc, L, st) h := by
  obtain ⟨hx, hb, hml, hown, hts, henv, hnm, hsb, hrm, hm⟩ := X
  change ax_op (ax_call d) (st_getr m nx a b L st h) (ax_gd p l e R s mM args below meth c QF D dA Hb h0 ro ρ0 hF hS m) Q0 at ho
  simp only [ax_side, Bool.and_eq_true] at hs
  obtain ⟨h1, h2⟩ := hs
  obtain rfl := ax_nxt h1
  rw [Nat.add_sub_cancel_left] at hd
  match st, ho with
  | .inr (.inr (some (t, o))) :: st, ho =>
    unfold st_getr at ho
    dsimp only at ho
    cases hoc : ax_oc t a with
    | false => rw [hoc] at ho; exact ho.elim
    | true =>
      rw [hoc] at ho
      have ho : ax_gd p l e R s mM args below meth c QF D dA Hb h0 ro ρ0 hF hS m (m, pc + 3, L, .inr (.inr (h.2.1 t o b)) :: st) h := ho
      refine ⟨rfl, ho.2.1, fun ρ H locs ls S => ?_⟩
      obtain ⟨S1, S2, S3, S4, S5, S6⟩ := S
      obtain ⟨hal, S5⟩ := ax_fm1 S5
      have hlt := hal t o rfl
      have hfr := (ax_sf_use h2).2.2.2
      have k := ho.2.2 ρ H locs ls ⟨S1, S2, S3, S4, ax_fm (ax_al_q (fun t1 a1 e1 => S1.2.2.1 t o hlt b (ax_sz_get hoc (ax_sf_use h2).2.2.1) t1 a1 e1)) S5, S6⟩
      refine ax_wget ⟨hx, hb, hml, hown, hts, henv, hnm, hsb, hrm, hm⟩ S1 hoc hlt h2 hd ?_
      unfold ax_fval
      rw [hfr]
      exact k
theorem ax_s47 (X : ax_cx p l e R s mM args below meth c D dA Hb h0 ro d m hF hS) {nx a b : Nat} {n : Int32} {pc : Nat} {L : AL} {st : List AV} {h : AH} (hd : decode (ax_bc m) pc = .ok (ax_enc pc (47, nx, a, b, n), nx - pc)) (hs : ax_side m pc (47, nx, a, b, n) = true) (ho : ax_op (ax_call d) (ax_st (47, nx, a, b, n) m L st h) (ax_gd p l e R s mM args below meth c QF D dA Hb h0 ro ρ0 hF hS m) Q0) : ax_gd p l e R s mM args below meth c QF D dA Hb h0 ro ρ0 hF hS m (m, pc, L, st) h := by
  obtain ⟨hx, hb, hml, hown, hts, henv, hnm, hsb, hrm, hm⟩ := X
  change ax_op (ax_call d) (st_getf m nx a b L st h) (ax_gd p l e R s mM args below meth c QF D dA Hb h0 ro ρ0 hF hS m) Q0 at ho
  simp only [ax_side, Bool.and_eq_true] at hs
  obtain ⟨h1, h2⟩ := hs
  obtain rfl := ax_nxt h1
  rw [Nat.add_sub_cancel_left] at hd
  match st, ho with
  | .inr (.inr (some (t, o))) :: st, ho =>
    unfold st_getf at ho
    dsimp only at ho
    cases hoc : ax_oc t a with
    | false => rw [hoc] at ho; exact ho.elim
    | true =>
      rw [hoc] at ho
      obtain ⟨hg, ho⟩ := ho
      have ho : ax_gd p l e R s mM args below meth c QF D dA Hb h0 ro ρ0 hF hS m (m, pc + 3, L, .inr (.inr (some ((ax_fs a b).1, ax_lin (ax_fs a b).2.1 (ax_fs a b).2.2 o))) :: st) h := ho
      refine ⟨rfl, ho.2.1, fun ρ H locs ls S => ?_⟩
      obtain ⟨S1, S2, S3, S4, S5, S6⟩ := S
      obtain ⟨hal, S5⟩ := ax_fm1 S5
      have hlt := hal t o rfl
      have hfr := (ax_sf_use h2).2.2.2
      have k := ho.2.2 ρ H locs ls ⟨S1, S2, S3, S4, ax_fm (ax_al_q (fun t1 a1 e1 => S1.2.2.1 t o hlt b (ax_sz_get hoc (ax_sf_use h2).2.2.1) t1 a1 (hg.trans e1))) S5, S6⟩
      refine ax_wget ⟨hx, hb, hml, hown, hts, henv, hnm, hsb, hrm, hm⟩ S1 hoc hlt h2 hd ?_
      unfold ax_fval
      rw [hfr]
      rw [hg]
      exact k
theorem ax_s48 (X : ax_cx p l e R s mM args below meth c D dA Hb h0 ro d m hF hS) {nx a b : Nat} {n : Int32} {pc : Nat} {L : AL} {st : List AV} {h : AH} (hd : decode (ax_bc m) pc = .ok (ax_enc pc (48, nx, a, b, n), nx - pc)) (hs : ax_side m pc (48, nx, a, b, n) = true) (ho : ax_op (ax_call d) (ax_st (48, nx, a, b, n) m L st h) (ax_gd p l e R s mM args below meth c QF D dA Hb h0 ro ρ0 hF hS m) Q0) : ax_gd p l e R s mM args below meth c QF D dA Hb h0 ro ρ0 hF hS m (m, pc, L, st) h := by
  obtain ⟨hx, hb, hml, hown, hts, henv, hnm, hsb, hrm, hm⟩ := X
  change ax_op (ax_call d) (st_getd m nx a b L st h) (ax_gd p l e R s mM args below meth c QF D dA Hb h0 ro ρ0 hF hS m) Q0 at ho
  simp only [ax_side, Bool.and_eq_true] at hs
  obtain ⟨h1, h2⟩ := hs
  obtain rfl := ax_nxt h1
  rw [Nat.add_sub_cancel_left] at hd
  match st, ho with
  | .inr (.inr (some (t, o))) :: st, ho =>
    unfold st_getd at ho
    dsimp only at ho
    cases hoc : ax_oc t a with
    | false => rw [hoc] at ho; exact ho.elim
    | true =>
      rw [hoc] at ho
      obtain ⟨hg, ho⟩ := ho
      have ho : ax_gd p l e R s mM args below meth c QF D dA Hb h0 ro ρ0 hF hS m (m, pc + 3, L, .inr (.inr (some (ax_fd a b, ax_rid (h.2.1 t o b)))) :: st) h := ho
      refine ⟨rfl, ho.2.1, fun ρ H locs ls S => ?_⟩
      obtain ⟨S1, S2, S3, S4, S5, S6⟩ := S
      obtain ⟨hal, S5⟩ := ax_fm1 S5
      have hlt := hal t o rfl
      have hfr := (ax_sf_use h2).2.2.2
      have k := ho.2.2 ρ H locs ls ⟨S1, S2, S3, S4, ax_fm (ax_al_q (fun t1 a1 e1 => S1.2.2.1 t o hlt b (ax_sz_get hoc (ax_sf_use h2).2.2.1) t1 a1 (hg.trans e1))) S5, S6⟩
      refine ax_wget ⟨hx, hb, hml, hown, hts, henv, hnm, hsb, hrm, hm⟩ S1 hoc hlt h2 hd ?_
      unfold ax_fval
      rw [hfr]
      rw [show (cond true (ax_rv ρ (h.2.1 t o b)) (.int (h.1 t o b))) = ax_rv ρ (some (ax_fd a b, ax_rid (h.2.1 t o b))) from congrArg (ax_rv ρ) hg]
      exact k

/-- a field is written -/
theorem ax_wput (X : ax_cx p l e R s mM args below meth c D dA Hb h0 ro d m hF hS) {pc : Nat} {ls : Array Slot} {ρ : Nat → Nat → Nat} {h : AH} {H : Heap} {locs : List Loc} {cells slots : Nat}  (hw : ax_wd D dA Hb h0 ro ρ h H) {t o a b : Nat} {n : Int32} {q : Bool} {rest : List Value} {v : Value} (ho0 : ax_o0 t a = true) (ho : o < h.2.2.1 t) (hsf : ax_sf m a b n q = true) (hsp : ax_sp m a b = true) (hn : narrow (ax_fty a b) v = v) (hfit : fits (ax_fty a b) v = true) (hlc : ∀ q ∈ locs, Hb.size ≤ q.base) (hd : decode (ax_bc m) pc = .ok (.putfield (ax_fl n.toNatClampNeg).2.1, 3))
    (k : ∀ (H' : Heap) (locs' : List Loc), t_OB (ρ t o) (D.1 (ax_sk t).2) (ax_N (ax_sk t).2) (D.2 (ax_sk t).2) H' (updV (ax_fval ρ h t o (ax_sk t).2) b v) → H'.size = H.size → (∀ q, q ≠ ρ t o → H'[q]? = H[q]?) → (∀ q ∈ locs', Hb.size ≤ q.base) → W p l e R s mM args below meth c H' locs' cells slots QF (F0 mM (pc + 3) ls rest)) : W p l e R s mM args below meth c H locs cells slots QF (F0 mM pc ls (v :: .ref (ρ t o) :: rest)) := by
  obtain ⟨hx, hb, hml, hown, hts, henv, hnm, hsb, hrm, hm⟩ := X
  obtain ⟨hlink, hcn, hbN, hfr⟩ := ax_sf_use hsf
  unfold ax_o0 at ho0
  rw [Bool.and_eq_true] at ho0
  have hk := Nat.eq_of_beq_eq_true ho0.1
  have hc := Nat.eq_of_beq_eq_true ho0.2
  subst hc
  have ha : (ax_sk t).2 < 13 := ax_sk0_lt hk
  have hbase := (hw.1 t o (by unfold ax_own; omega) ho).2
  obtain ⟨hin, -, -, hty, hT, hap0⟩ := ax_cl_use ha
  obtain ⟨cell, q1, q2, q3, q4⟩ := (hw.1 t o (by unfold ax_own; omega) ho).1.1 hk
  have hap := va_apart (own := ax_cn (ax_mc m)) hts hin (ax_fty (ax_sk t).2) hty hap0 henv.1 (ax_cls_get ha)
  obtain ⟨hS, hfc, kC, hkC, hkind⟩ := henv.1.1 _ _ (ax_cls_get ha)
  obtain ⟨cf, kf, fi, f, hi, hsl⟩ := hS b hbN
  have hi2 : s.fieldFound? (ax_cn (ax_sk t).2) (ax_T (ax_sk t).2 b).2.1 (ax_T (ax_sk t).2 b).2.2.1 = some (cf, kf, fi, f) := by rw [hcn]; exact hi
  have hst := (u_facts hfc hkC (u_lays hts hin hbN) hi).1
  have hlay := hts _ (hin _ (u_in_lay hbN))
  unfold u_lay at hlay
  have goal : ∀ H' : Heap, H'[ρ t o]? = some (cell.setSlot f.slot v) → H'.size = H.size → (∀ q, q ≠ ρ t o → H'[q]? = H[q]?) → W p l e R s mM args below meth c H' (locs ++ [⟨ρ t o, f.slot⟩]) cells slots QF (F0 mM (pc + 3) ls rest) := by
    intro H' e1 e2 e3
    rw [hsl] at e1 ⊢
    refine k H' _ ⟨_, e1, q2, q3, t_set q4 hap hbN v⟩ e2 e3 (fun q hq => ?_)
    rcases List.mem_append.mp hq with h | h
    · exact hlc q h
    · rw [List.mem_singleton.mp h]
      exact hbase
  unfold ax_sp at hsp
  rw [Bool.and_eq_true, Bool.or_eq_true] at hsp
  cases hfin : (ax_T (ax_sk t).2 b).2.2.2 with
  | false =>
    rw [if_neg (by rw [hfin]; decide)] at hlay
    have h6 := u_store hfc hkC hkind hlay hi (hty b hbN) hn hfit
    exact W.putK hx hb (f := f) ⟨hown, hts _ hlink, ⟨_, _, _, hi2⟩, hst⟩ (by rw [q2]; exact h6) q1 q3 (by rw [hsl]; exact k2_hasslot (q4 b hbN)) rfl rfl hd goal
  | true =>
    rw [if_pos hfin] at hlay
    have hz := hsp.2
    rw [hfin] at hz
    rcases hz with hz | hz
    · cases hz
    · rw [Bool.and_eq_true, decide_eq_true_eq] at hz
      have hown2 : s.vm.findClass (ax_T (ax_sk t).2 b).1 = some mM.cls := by rw [hT b hbN, ← Nat.eq_of_beq_eq_true hz.2]; exact hown
      have hcf : mM.cls = cf := by
        obtain ⟨_, _, c', _, _, _, -, -, hf', -, -, -, hown3, -⟩ := Cond.laysFinal_spec hlay
        have e1 : c' = cf := by have := hi.symm.trans hf'; simp at this; exact this.1.symm
        rw [← e1]
        exact Option.some.inj (hown2.symm.trans hown3)
      have h6 := u_fits hfc hkC hkind (Or.inr hlay) hi (hty b hbN) hn hfit
      exact W.putFinK hx hb hown (hts _ hlink) hi2 hst hcf (by rw [hnm]; exact hz.1) (by rw [q2]; exact h6) q1 q3 (by rw [hsl]; exact k2_hasslot (q4 b hbN)) rfl rfl hd goal
/-- an array -/
theorem ax_warr (henv : ax_env D dA Hb h0 ro s) {ρ : Nat → Nat → Nat} {h : AH} {H : Heap}  (hw : ax_wd D dA Hb h0 ro ρ h H) {t o : Nat} (har : ax_ar t = true) (ho : o < h.2.2.1 t) : ∃ cell : Cell, H[ρ t o]? = some cell ∧ s.isArrayOf cell (ax_t2 (ax_sk t).2) ∧ cell.vm ≠ .unknown ∧ cell.slots.size.toInt32 = (ax_len h t o).toInt32 ∧ ax_len h t o ≤ cell.slots.size ∧ ∀ j, j < ax_len h t o → cell.slots[j]? = some (ax_eval ρ h t o (ax_sk t).2 j) := by
  unfold ax_ar at har
  rw [Bool.or_eq_true] at har
  rcases har with hk | hk
  · have hk := Nat.eq_of_beq_eq_true hk
    have e1 := (hw.1 t o (by unfold ax_own; omega) ho).1.2 hk
    refine ⟨_, e1, ?_, (fun q => by cases q), ?_, ?_, fun j hj => ?_⟩
    · exact (henv.1.2 (ax_sk t).2 _ (ax_tys_get (ax_sk1_lt hk))).1 _ _
    · rw [arrV_size]
    · rw [arrV_size]; exact Nat.le_refl _
    · rw [arrV_read _ _ hj]
  · have hk := Nat.eq_of_beq_eq_true hk
    have hno : ¬ ax_own t := by unfold ax_own; omega
    obtain ⟨g1, g2, g3, g4⟩ := hw.2.2.2.2.1 t hno
    rw [g3] at ho
    have kept : ∀ q : Nat, q < Hb.size → ¬ ax_A Hb q → H[q]? = Hb[q]? := fun q hq _ => hw.2.2.2.1.2 q hq
    obtain ⟨cell, e1, e2, e3, e4, e5, e6, e7⟩ := (henv.2.2.1 t o hk ho).kept kept
    rw [← hw.2.2.2.2.2 t o hno] at e1
    have hl : ax_len h t o = ax_len h0 t o := ax_len_congr (by rw [g4])
    refine ⟨cell, e1, e2, e3, by rw [hl]; exact e5, by rw [hl]; exact e4, fun j hj => ?_⟩
    rw [hl] at hj
    rw [e6 j hj]
    have h2 : Nat.ble 3 (ax_sk t).2 = false := ax_sk2_ble hk
    unfold ax_eval
    rw [ax_nb8 h2, h2, g1]
    rfl
theorem ax_s23 (X : ax_cx p l e R s mM args below meth c D dA Hb h0 ro d m hF hS) {nx a b : Nat} {n : Int32} {pc : Nat} {L : AL} {st : List AV} {h : AH} (hd : decode (ax_bc m) pc = .ok (ax_enc pc (23, nx, a, b, n), nx - pc)) (hs : ax_side m pc (23, nx, a, b, n) = true) (ho : ax_op (ax_call d) (ax_st (23, nx, a, b, n) m L st h) (ax_gd p l e R s mM args below meth c QF D dA Hb h0 ro ρ0 hF hS m) Q0) : ax_gd p l e R s mM args below meth c QF D dA Hb h0 ro ρ0 hF hS m (m, pc, L, st) h := by
  obtain ⟨hx, hb, hml, hown, hts, henv, hnm, hsb, hrm, hm⟩ := X
  change ax_op (ax_call d) (st_puti m nx a b L st h) (ax_gd p l e R s mM args below meth c QF D dA Hb h0 ro ρ0 hF hS m) Q0 at ho
  simp only [ax_side, Bool.and_eq_true] at hs
  obtain ⟨h1, h2, h3, h4⟩ := hs
  obtain rfl := ax_nxt h1
  rw [Nat.add_sub_cancel_left] at hd
  match st, ho with
  | .inl v :: .inr (.inr (some (t, o))) :: st, ho =>
    unfold st_puti at ho
    dsimp only at ho
    cases hoc : ax_o0 t a with
    | false => rw [hoc] at ho; exact ho.elim
    | true =>
      rw [hoc] at ho
      have ho : ax_gd p l e R s mM args below meth c QF D dA Hb h0 ro ρ0 hF hS m (m, pc + 3, L, st) (ax_wI h.1 t o b v, h.2) := ho
      refine ⟨rfl, ho.2.1, fun ρ H locs ls S => ?_⟩
      obtain ⟨S1, S2, S3, S4, S5, S6, S7, S8⟩ := S
      obtain ⟨hav, S5⟩ := ax_fm1 S5
      obtain ⟨hal, S5⟩ := ax_fm1 S5
      have hlt := hal t o rfl
      have hsu := ax_sf_use h2
      have hk0 : (ax_sk t).1 = 0 ∧ (ax_sk t).2 = a := by
        unfold ax_o0 at hoc
        rw [Bool.and_eq_true] at hoc
        exact ⟨Nat.eq_of_beq_eq_true hoc.1, Nat.eq_of_beq_eq_true hoc.2⟩
      have how : ax_own t := by unfold ax_own; omega
      refine ax_wput ⟨hx, hb, hml, hown, hts, henv, hnm, hsb, hrm, hm⟩ S1 (v := .int v) hoc hlt h2 h3 (by rw [of_decide_eq_true h4]; rfl) (by rw [of_decide_eq_true h4]; rfl) S7 hd (fun H' locs' e1 e2 e3 e4 => ?_)
      refine ho.2.2 ρ H' locs' ls ⟨?_, S2, S3, S4, S5, S6, e4, S8⟩
      refine S1.set how hlt rfl (fun x y j q => ?_) (fun x y j q => ?_) e2 e3 ⟨fun _ => e1.to (fun k hk => ?_), fun q => absurd q (by omega)⟩ ?_
      · exact if_neg (fun z => q ⟨z.1, z.2.1⟩)
      · rfl
      · rw [hk0.2]
        unfold updV ax_fval
        by_cases e : k = b
        · subst e
          rw [if_pos rfl, hsu.2.2.2]
          show Value.int v = Value.int (ax_wI h.1 t o k v t o k)
          unfold ax_wI
          rw [if_pos ⟨rfl, rfl, rfl⟩]
        · rw [if_neg e]
          have e9 : ax_wI h.1 t o b v t o k = h.1 t o k := if_neg (fun z => e z.2.2)
          show cond (ax_fr a k) (ax_rv ρ (h.2.1 t o k)) (.int (h.1 t o k)) = cond (ax_fr a k) (ax_rv ρ (h.2.1 t o k)) (.int (ax_wI h.1 t o b v t o k))
          rw [e9]
      · exact S1.2.2.1 t o hlt
theorem ax_s49 (X : ax_cx p l e R s mM args below meth c D dA Hb h0 ro d m hF hS) {nx a b : Nat} {n : Int32} {pc : Nat} {L : AL} {st : List AV} {h : AH} (hd : decode (ax_bc m) pc = .ok (ax_enc pc (49, nx, a, b, n), nx - pc)) (hs : ax_side m pc (49, nx, a, b, n) = true) (ho : ax_op (ax_call d) (ax_st (49, nx, a, b, n) m L st h) (ax_gd p l e R s mM args below meth c QF D dA Hb h0 ro ρ0 hF hS m) Q0) : ax_gd p l e R s mM args below meth c QF D dA Hb h0 ro ρ0 hF hS m (m, pc, L, st) h := by
  obtain ⟨hx, hb, hml, hown, hts, henv, hnm, hsb, hrm, hm⟩ := X
  change ax_op (ax_call d) (st_putz m nx a b L st h) (ax_gd p l e R s mM args below meth c QF D dA Hb h0 ro ρ0 hF hS m) Q0 at ho
  simp only [ax_side, Bool.and_eq_true] at hs
  obtain ⟨h1, h2, h3, h4⟩ := hs
  obtain rfl := ax_nxt h1
  rw [Nat.add_sub_cancel_left] at hd
  match st, ho with
  | .inl v :: .inr (.inr (some (t, o))) :: st, ho =>
    unfold st_putz at ho
    dsimp only at ho
    cases hoc : ax_o0 t a with
    | false => rw [hoc] at ho; exact ho.elim
    | true =>
      rw [hoc] at ho
      obtain ⟨hg, ho⟩ := ho
      have ho : ax_gd p l e R s mM args below meth c QF D dA Hb h0 ro ρ0 hF hS m (m, pc + 3, L, st) (ax_wI h.1 t o b v, h.2) := ho
      refine ⟨rfl, ho.2.1, fun ρ H locs ls S => ?_⟩
      obtain ⟨S1, S2, S3, S4, S5, S6, S7, S8⟩ := S
      obtain ⟨hav, S5⟩ := ax_fm1 S5
      obtain ⟨hal, S5⟩ := ax_fm1 S5
      have hlt := hal t o rfl
      have hsu := ax_sf_use h2
      have hk0 : (ax_sk t).1 = 0 ∧ (ax_sk t).2 = a := by
        unfold ax_o0 at hoc
        rw [Bool.and_eq_true] at hoc
        exact ⟨Nat.eq_of_beq_eq_true hoc.1, Nat.eq_of_beq_eq_true hoc.2⟩
      have how : ax_own t := by unfold ax_own; omega
      refine ax_wput ⟨hx, hb, hml, hown, hts, henv, hnm, hsb, hrm, hm⟩ S1 (v := .int v) hoc hlt h2 h3 (by rw [of_decide_eq_true h4]; rcases hg with e | e <;> rw [e] <;> decide) (by rw [of_decide_eq_true h4]; rcases hg with e | e <;> rw [e] <;> decide) S7 hd (fun H' locs' e1 e2 e3 e4 => ?_)
      refine ho.2.2 ρ H' locs' ls ⟨?_, S2, S3, S4, S5, S6, e4, S8⟩
      refine S1.set how hlt rfl (fun x y j q => ?_) (fun x y j q => ?_) e2 e3 ⟨fun _ => e1.to (fun k hk => ?_), fun q => absurd q (by omega)⟩ ?_
      · exact if_neg (fun z => q ⟨z.1, z.2.1⟩)
      · rfl
      · rw [hk0.2]
        unfold updV ax_fval
        by_cases e : k = b
        · subst e
          rw [if_pos rfl, hsu.2.2.2]
          show Value.int v = Value.int (ax_wI h.1 t o k v t o k)
          unfold ax_wI
          rw [if_pos ⟨rfl, rfl, rfl⟩]
        · rw [if_neg e]
          have e9 : ax_wI h.1 t o b v t o k = h.1 t o k := if_neg (fun z => e z.2.2)
          show cond (ax_fr a k) (ax_rv ρ (h.2.1 t o k)) (.int (h.1 t o k)) = cond (ax_fr a k) (ax_rv ρ (h.2.1 t o k)) (.int (ax_wI h.1 t o b v t o k))
          rw [e9]
      · exact S1.2.2.1 t o hlt
theorem ax_s50 (X : ax_cx p l e R s mM args below meth c D dA Hb h0 ro d m hF hS) {nx a b : Nat} {n : Int32} {pc : Nat} {L : AL} {st : List AV} {h : AH} (hd : decode (ax_bc m) pc = .ok (ax_enc pc (50, nx, a, b, n), nx - pc)) (hs : ax_side m pc (50, nx, a, b, n) = true) (ho : ax_op (ax_call d) (ax_st (50, nx, a, b, n) m L st h) (ax_gd p l e R s mM args below meth c QF D dA Hb h0 ro ρ0 hF hS m) Q0) : ax_gd p l e R s mM args below meth c QF D dA Hb h0 ro ρ0 hF hS m (m, pc, L, st) h := by
  obtain ⟨hx, hb, hml, hown, hts, henv, hnm, hsb, hrm, hm⟩ := X
  change ax_op (ax_call d) (st_putr m nx a b L st h) (ax_gd p l e R s mM args below meth c QF D dA Hb h0 ro ρ0 hF hS m) Q0 at ho
  simp only [ax_side, Bool.and_eq_true] at hs
  obtain ⟨h1, h2, h3, h4⟩ := hs
  obtain rfl := ax_nxt h1
  rw [Nat.add_sub_cancel_left] at hd
  match st, ho with
  | .inr (.inr r) :: .inr (.inr (some (t, o))) :: st, ho =>
    unfold st_putr at ho
    dsimp only at ho
    cases hoc : ax_o0 t a with
    | false => rw [hoc] at ho; exact ho.elim
    | true =>
      rw [hoc] at ho
      have ho : ax_gd p l e R s mM args below meth c QF D dA Hb h0 ro ρ0 hF hS m (m, pc + 3, L, st) (h.1, ax_wR h.2.1 t o b r, h.2.2) := ho
      refine ⟨rfl, ho.2.1, fun ρ H locs ls S => ?_⟩
      obtain ⟨S1, S2, S3, S4, S5, S6, S7, S8⟩ := S
      obtain ⟨hav, S5⟩ := ax_fm1 S5
      obtain ⟨hal, S5⟩ := ax_fm1 S5
      have hlt := hal t o rfl
      have hsu := ax_sf_use h2
      have hk0 : (ax_sk t).1 = 0 ∧ (ax_sk t).2 = a := by
        unfold ax_o0 at hoc
        rw [Bool.and_eq_true] at hoc
        exact ⟨Nat.eq_of_beq_eq_true hoc.1, Nat.eq_of_beq_eq_true hoc.2⟩
      have how : ax_own t := by unfold ax_own; omega
      have hft : (∃ n, ax_fty a b = .object n) ∨ ∃ n, ax_fty a b = .array n := by
        match hq : ax_fty a b, h4 with
        | .object n, _ => exact Or.inl ⟨n, rfl⟩
        | .array n, _ => exact Or.inr ⟨n, rfl⟩
      refine ax_wput ⟨hx, hb, hml, hown, hts, henv, hnm, hsb, hrm, hm⟩ S1 (v := ax_rv ρ r) hoc hlt h2 h3 (by rcases hft with ⟨y, e⟩ | ⟨y, e⟩ <;> rw [e] <;> rfl) (by rcases hft with ⟨y, e⟩ | ⟨y, e⟩ <;> rw [e] <;> rcases ax_rv_cases (ρ := ρ) r with e2 | ⟨z, e2⟩ <;> rw [e2] <;> rfl) S7 hd (fun H' locs' e1 e2 e3 e4 => ?_)
      refine ho.2.2 ρ H' locs' ls ⟨?_, S2, S3, S4, S5, S6, e4, S8⟩
      refine S1.set how hlt rfl (fun x y j q => ?_) (fun x y j q => ?_) e2 e3 ⟨fun _ => e1.to (fun k hk => ?_), fun q => absurd q (by omega)⟩ ?_
      · rfl
      · exact if_neg (fun z => q ⟨z.1, z.2.1⟩)
      · rw [hk0.2]
        unfold updV ax_fval
        by_cases e : k = b
        · subst e
          rw [if_pos rfl, hsu.2.2.2]
          show ax_rv ρ r = ax_rv ρ (ax_wR h.2.1 t o k r t o k)
          unfold ax_wR
          rw [if_pos ⟨rfl, rfl, rfl⟩]
        · rw [if_neg e]
          have e9 : ax_wR h.2.1 t o b r t o k = h.2.1 t o k := if_neg (fun z => e z.2.2)
          show cond (ax_fr a k) (ax_rv ρ (h.2.1 t o k)) (.int (h.1 t o k)) = cond (ax_fr a k) (ax_rv ρ (ax_wR h.2.1 t o b r t o k)) (.int (h.1 t o k))
          rw [e9]
      · intro j hj t1 b1 e9
        have e9 : ax_wR h.2.1 t o b r t o j = some (t1, b1) := e9
        by_cases e : j = b
        · subst e
          unfold ax_wR at e9
          rw [if_pos ⟨rfl, rfl, rfl⟩] at e9
          exact hav t1 b1 (by rw [e9])
        · have e8 : ax_wR h.2.1 t o b r t o j = h.2.1 t o j := if_neg (fun z => e z.2.2)
          rw [e8] at e9
          exact S1.2.2.1 t o hlt j hj t1 b1 e9
theorem ax_s30 (X : ax_cx p l e R s mM args below meth c D dA Hb h0 ro d m hF hS) {nx a b : Nat} {n : Int32} {pc : Nat} {L : AL} {st : List AV} {h : AH} (hd : decode (ax_bc m) pc = .ok (ax_enc pc (30, nx, a, b, n), nx - pc)) (hs : ax_side m pc (30, nx, a, b, n) = true) (ho : ax_op (ax_call d) (ax_st (30, nx, a, b, n) m L st h) (ax_gd p l e R s mM args below meth c QF D dA Hb h0 ro ρ0 hF hS m) Q0) : ax_gd p l e R s mM args below meth c QF D dA Hb h0 ro ρ0 hF hS m (m, pc, L, st) h := by
  obtain ⟨hx, hb, hml, hown, hts, henv, hnm, hsb, hrm, hm⟩ := X
  change ax_op (ax_call d) (st_alen m nx L st h) (ax_gd p l e R s mM args below meth c QF D dA Hb h0 ro ρ0 hF hS m) Q0 at ho
  obtain rfl := ax_nxt hs
  rw [Nat.add_sub_cancel_left] at hd
  match st, ho with
  | .inr (.inr (some (t, o))) :: st, ho =>
    unfold st_alen at ho
    dsimp only at ho
    cases hoc : ax_ar t with
    | false => rw [hoc] at ho; exact ho.elim
    | true =>
      rw [hoc] at ho
      have ho : ax_gd p l e R s mM args below meth c QF D dA Hb h0 ro ρ0 hF hS m (m, pc + 1, L, .inl (ax_len h t o).toInt32 :: st) h := ho
      refine ⟨rfl, ho.2.1, fun ρ H locs ls S => ?_⟩
      obtain ⟨S1, S2, S3, S4, S5, S6⟩ := S
      obtain ⟨hal, S5⟩ := ax_fm1 S5
      have hlt := hal t o rfl
      obtain ⟨cell, e1, e2, e3, e4, -, -⟩ := ax_warr henv S1 hoc hlt
      have k := ho.2.2 ρ H locs ls ⟨S1, S2, S3, S4, ax_fm ax_al_i S5, S6⟩
      exact W.alen hx hb e1 e2 e4 rfl rfl hd k
theorem ax_s31 (X : ax_cx p l e R s mM args below meth c D dA Hb h0 ro d m hF hS) {nx a b : Nat} {n : Int32} {pc : Nat} {L : AL} {st : List AV} {h : AH} (hd : decode (ax_bc m) pc = .ok (ax_enc pc (31, nx, a, b, n), nx - pc)) (hs : ax_side m pc (31, nx, a, b, n) = true) (ho : ax_op (ax_call d) (ax_st (31, nx, a, b, n) m L st h) (ax_gd p l e R s mM args below meth c QF D dA Hb h0 ro ρ0 hF hS m) Q0) : ax_gd p l e R s mM args below meth c QF D dA Hb h0 ro ρ0 hF hS m (m, pc, L, st) h := by
  obtain ⟨hx, hb, hml, hown, hts, henv, hnm, hsb, hrm, hm⟩ := X
  change ax_op (ax_call d) (st_ild m nx L st h) (ax_gd p l e R s mM args below meth c QF D dA Hb h0 ro ρ0 hF hS m) Q0 at ho
  obtain rfl := ax_nxt hs
  rw [Nat.add_sub_cancel_left] at hd
  match st, ho with
  | .inl i :: .inr (.inr (some (t, o))) :: st, ho =>
    unfold st_ild at ho
    dsimp only at ho
    cases hoc : (ax_at t 0) with
    | false => rw [hoc] at ho; exact ho.elim
    | true =>
      rw [hoc] at ho
      obtain ⟨hg, ho⟩ := ho
      have ho : ax_gd p l e R s mM args below meth c QF D dA Hb h0 ro ρ0 hF hS m (m, pc + 1, L, .inl (h.1 t o i.toNatClampNeg) :: st) h := ho
      refine ⟨rfl, ho.2.1, fun ρ H locs ls S => ?_⟩
      obtain ⟨S1, S2, S3, S4, S5, S6⟩ := S
      obtain ⟨-, S5⟩ := ax_fm1 S5
      obtain ⟨hal, S5⟩ := ax_fm1 S5
      have hlt := hal t o rfl
      unfold ax_at at hoc
      rw [Bool.and_eq_true] at hoc
      have hz0 := Nat.eq_of_beq_eq_true hoc.2
      obtain ⟨cell, e1, e2, e3, -, e5, e6⟩ := ax_warr henv S1 hoc.1 hlt
      rw [hz0] at e2 e6
      have k := ho.2.2 ρ H locs ls ⟨S1, S2, S3, S4, ax_fm ax_al_i S5, S6⟩
      exact W.iald hx hb e1 e2 e3 (fun q => q.elim hg.1 (fun q => absurd hg.2 (by omega))) (e6 _ hg.2) rfl rfl hd k
theorem ax_s33 (X : ax_cx p l e R s mM args below meth c D dA Hb h0 ro d m hF hS) {nx a b : Nat} {n : Int32} {pc : Nat} {L : AL} {st : List AV} {h : AH} (hd : decode (ax_bc m) pc = .ok (ax_enc pc (33, nx, a, b, n), nx - pc)) (hs : ax_side m pc (33, nx, a, b, n) = true) (ho : ax_op (ax_call d) (ax_st (33, nx, a, b, n) m L st h) (ax_gd p l e R s mM args below meth c QF D dA Hb h0 ro ρ0 hF hS m) Q0) : ax_gd p l e R s mM args below meth c QF D dA Hb h0 ro ρ0 hF hS m (m, pc, L, st) h := by
  obtain ⟨hx, hb, hml, hown, hts, henv, hnm, hsb, hrm, hm⟩ := X
  change ax_op (ax_call d) (st_bld m nx L st h) (ax_gd p l e R s mM args below meth c QF D dA Hb h0 ro ρ0 hF hS m) Q0 at ho
  obtain rfl := ax_nxt hs
  rw [Nat.add_sub_cancel_left] at hd
  match st, ho with
  | .inl i :: .inr (.inr (some (t, o))) :: st, ho =>
    unfold st_bld at ho
    dsimp only at ho
    cases hoc : (ax_at t 1 || ax_at t 2) with
    | false => rw [hoc] at ho; exact ho.elim
    | true =>
      rw [hoc] at ho
      obtain ⟨hg, ho⟩ := ho
      have ho : ax_gd p l e R s mM args below meth c QF D dA Hb h0 ro ρ0 hF hS m (m, pc + 1, L, .inl (h.1 t o i.toNatClampNeg) :: st) h := ho
      refine ⟨rfl, ho.2.1, fun ρ H locs ls S => ?_⟩
      obtain ⟨S1, S2, S3, S4, S5, S6⟩ := S
      obtain ⟨-, S5⟩ := ax_fm1 S5
      obtain ⟨hal, S5⟩ := ax_fm1 S5
      have hlt := hal t o rfl
      rw [Bool.or_eq_true] at hoc
      have k := ho.2.2 ρ H locs ls ⟨S1, S2, S3, S4, ax_fm ax_al_i S5, S6⟩
      rcases hoc with hoc | hoc
      · unfold ax_at at hoc
        rw [Bool.and_eq_true] at hoc
        have hz0 := Nat.eq_of_beq_eq_true hoc.2
        obtain ⟨cell, e1, e2, e3, -, e5, e6⟩ := ax_warr henv S1 hoc.1 hlt
        rw [hz0] at e2 e6
        exact W.bald hx hb e1 e2 e3 (fun q => q.elim hg.1 (fun q => absurd hg.2 (by omega))) (e6 _ hg.2) rfl rfl hd k
      · unfold ax_at at hoc
        rw [Bool.and_eq_true] at hoc
        have hz0 := Nat.eq_of_beq_eq_true hoc.2
        obtain ⟨cell, e1, e2, e3, -, e5, e6⟩ := ax_warr henv S1 hoc.1 hlt
        rw [hz0] at e2 e6
        exact W.zald hx hb e1 e2 e3 (fun q => q.elim hg.1 (fun q => absurd hg.2 (by omega))) (e6 _ hg.2) rfl rfl hd k
theorem ax_s35 (X : ax_cx p l e R s mM args below meth c D dA Hb h0 ro d m hF hS) {nx a b : Nat} {n : Int32} {pc : Nat} {L : AL} {st : List AV} {h : AH} (hd : decode (ax_bc m) pc = .ok (ax_enc pc (35, nx, a, b, n), nx - pc)) (hs : ax_side m pc (35, nx, a, b, n) = true) (ho : ax_op (ax_call d) (ax_st (35, nx, a, b, n) m L st h) (ax_gd p l e R s mM args below meth c QF D dA Hb h0 ro ρ0 hF hS m) Q0) : ax_gd p l e R s mM args below meth c QF D dA Hb h0 ro ρ0 hF hS m (m, pc, L, st) h := by
  obtain ⟨hx, hb, hml, hown, hts, henv, hnm, hsb, hrm, hm⟩ := X
  change ax_op (ax_call d) (st_ald m nx L st h) (ax_gd p l e R s mM args below meth c QF D dA Hb h0 ro ρ0 hF hS m) Q0 at ho
  obtain rfl := ax_nxt hs
  rw [Nat.add_sub_cancel_left] at hd
  match st, ho with
  | .inl i :: .inr (.inr (some (t, o))) :: st, ho =>
    unfold st_ald at ho
    dsimp only at ho
    cases hoc : (ax_aq t) with
    | false => rw [hoc] at ho; exact ho.elim
    | true =>
      rw [hoc] at ho
      obtain ⟨hg, ho⟩ := ho
      have ho : ax_gd p l e R s mM args below meth c QF D dA Hb h0 ro ρ0 hF hS m (m, pc + 1, L, .inr (.inr (h.2.1 t o i.toNatClampNeg)) :: st) h := ho
      refine ⟨rfl, ho.2.1, fun ρ H locs ls S => ?_⟩
      obtain ⟨S1, S2, S3, S4, S5, S6⟩ := S
      obtain ⟨-, S5⟩ := ax_fm1 S5
      obtain ⟨hal, S5⟩ := ax_fm1 S5
      have hlt := hal t o rfl
      unfold ax_aq at hoc
      rw [Bool.and_eq_true, Bool.and_eq_true] at hoc
      have hk1 := Nat.eq_of_beq_eq_true hoc.1
      have h3 := hoc.2.1
      have h8 := ax_rb8 hoc.2.2
      have har : ax_ar t = true := by unfold ax_ar; rw [hoc.1]; rfl
      obtain ⟨cell, e1, e2, e3, -, e5, e6⟩ := ax_warr henv S1 har hlt
      have hrf : (ax_t2 (ax_sk t).2).isReference = true := ax_t2_ref h3 hoc.2.2
      have e7 := e6 _ hg.2
      unfold ax_eval at e7
      rw [h8, h3] at e7
      have k := ho.2.2 ρ H locs ls ⟨S1, S2, S3, S4, ax_fm (ax_al_q (fun t1 a1 q => S1.2.2.1 t o hlt _ (by rw [ax_sz1 hk1]; exact hg.2) t1 a1 q)) S5, S6⟩
      exact W.aald hx hb e1 e2 hrf e3 (fun q => q.elim hg.1 (fun q => absurd hg.2 (by omega))) e7 rfl rfl hd k
theorem ax_s51 (X : ax_cx p l e R s mM args below meth c D dA Hb h0 ro d m hF hS) {nx a b : Nat} {n : Int32} {pc : Nat} {L : AL} {st : List AV} {h : AH} (hd : decode (ax_bc m) pc = .ok (ax_enc pc (51, nx, a, b, n), nx - pc)) (hs : ax_side m pc (51, nx, a, b, n) = true) (ho : ax_op (ax_call d) (ax_st (51, nx, a, b, n) m L st h) (ax_gd p l e R s mM args below meth c QF D dA Hb h0 ro ρ0 hF hS m) Q0) : ax_gd p l e R s mM args below meth c QF D dA Hb h0 ro ρ0 hF hS m (m, pc, L, st) h := by
  obtain ⟨hx, hb, hml, hown, hts, henv, hnm, hsb, hrm, hm⟩ := X
  change ax_op (ax_call d) (st_alf m nx L st h) (ax_gd p l e R s mM args below meth c QF D dA Hb h0 ro ρ0 hF hS m) Q0 at ho
  obtain rfl := ax_nxt hs
  rw [Nat.add_sub_cancel_left] at hd
  match st, ho with
  | .inl i :: .inr (.inr (some (t, o))) :: st, ho =>
    unfold st_alf at ho
    dsimp only at ho
    cases hoc : (ax_aq t) with
    | false => rw [hoc] at ho; exact ho.elim
    | true =>
      rw [hoc] at ho
      obtain ⟨hg, ho⟩ := ho
      have ho : ax_gd p l e R s mM args below meth c QF D dA Hb h0 ro ρ0 hF hS m (m, pc + 1, L, .inr (.inr (some ((ax_es t).1, ax_lin2 (ax_es t).2.1 (ax_es t).2.2 o i.toNatClampNeg))) :: st) h := ho
      refine ⟨rfl, ho.2.1, fun ρ H locs ls S => ?_⟩
      obtain ⟨S1, S2, S3, S4, S5, S6⟩ := S
      obtain ⟨-, S5⟩ := ax_fm1 S5
      obtain ⟨hal, S5⟩ := ax_fm1 S5
      have hlt := hal t o rfl
      unfold ax_aq at hoc
      rw [Bool.and_eq_true, Bool.and_eq_true] at hoc
      have hk1 := Nat.eq_of_beq_eq_true hoc.1
      have h3 := hoc.2.1
      have h8 := ax_rb8 hoc.2.2
      have har : ax_ar t = true := by unfold ax_ar; rw [hoc.1]; rfl
      obtain ⟨cell, e1, e2, e3, -, e5, e6⟩ := ax_warr henv S1 har hlt
      have hrf : (ax_t2 (ax_sk t).2).isReference = true := ax_t2_ref h3 hoc.2.2
      have e7 := e6 _ hg.1.2
      unfold ax_eval at e7
      rw [h8, h3] at e7
      rw [hg.2] at e7
      have k := ho.2.2 ρ H locs ls ⟨S1, S2, S3, S4, ax_fm (ax_al_q (fun t1 a1 q => S1.2.2.1 t o hlt _ (by rw [ax_sz1 hk1]; exact hg.1.2) t1 a1 (hg.2.trans q))) S5, S6⟩
      exact W.aald hx hb e1 e2 hrf e3 (fun q => q.elim hg.1.1 (fun q => absurd hg.1.2 (by omega))) e7 rfl rfl hd k
theorem ax_s58 (X : ax_cx p l e R s mM args below meth c D dA Hb h0 ro d m hF hS) {nx a b : Nat} {n : Int32} {pc : Nat} {L : AL} {st : List AV} {h : AH} (hd : decode (ax_bc m) pc = .ok (ax_enc pc (58, nx, a, b, n), nx - pc)) (hs : ax_side m pc (58, nx, a, b, n) = true) (ho : ax_op (ax_call d) (ax_st (58, nx, a, b, n) m L st h) (ax_gd p l e R s mM args below meth c QF D dA Hb h0 ro ρ0 hF hS m) Q0) : ax_gd p l e R s mM args below meth c QF D dA Hb h0 ro ρ0 hF hS m (m, pc, L, st) h := by
  obtain ⟨hx, hb, hml, hown, hts, henv, hnm, hsb, hrm, hm⟩ := X
  change ax_op (ax_call d) (st_ald2 m nx L st h) (ax_gd p l e R s mM args below meth c QF D dA Hb h0 ro ρ0 hF hS m) Q0 at ho
  obtain rfl := ax_nxt hs
  rw [Nat.add_sub_cancel_left] at hd
  match st, ho with
  | .inl i :: .inr (.inr (some (t, o))) :: st, ho =>
    unfold st_ald2 at ho
    dsimp only at ho
    cases hoc : (ax_aq t) with
    | false => rw [hoc] at ho; exact ho.elim
    | true =>
      rw [hoc] at ho
      obtain ⟨hg, ho⟩ := ho
      have ho : ax_gd p l e R s mM args below meth c QF D dA Hb h0 ro ρ0 hF hS m (m, pc + 1, L, .inr (.inr (some (ax_tc (ax_sk t).2, ax_rid (h.2.1 t o i.toNatClampNeg)))) :: st) h := ho
      refine ⟨rfl, ho.2.1, fun ρ H locs ls S => ?_⟩
      obtain ⟨S1, S2, S3, S4, S5, S6⟩ := S
      obtain ⟨-, S5⟩ := ax_fm1 S5
      obtain ⟨hal, S5⟩ := ax_fm1 S5
      have hlt := hal t o rfl
      unfold ax_aq at hoc
      rw [Bool.and_eq_true, Bool.and_eq_true] at hoc
      have hk1 := Nat.eq_of_beq_eq_true hoc.1
      have h3 := hoc.2.1
      have h8 := ax_rb8 hoc.2.2
      have har : ax_ar t = true := by unfold ax_ar; rw [hoc.1]; rfl
      obtain ⟨cell, e1, e2, e3, -, e5, e6⟩ := ax_warr henv S1 har hlt
      have hrf : (ax_t2 (ax_sk t).2).isReference = true := ax_t2_ref h3 hoc.2.2
      have e7 := e6 _ hg.1.2
      unfold ax_eval at e7
      rw [h8, h3] at e7
      rw [show (cond true (ax_rv ρ (h.2.1 t o i.toNatClampNeg)) (.int (h.1 t o i.toNatClampNeg))) = ax_rv ρ (some (ax_tc (ax_sk t).2, ax_rid (h.2.1 t o i.toNatClampNeg))) from congrArg (ax_rv ρ) hg.2] at e7
      have k := ho.2.2 ρ H locs ls ⟨S1, S2, S3, S4, ax_fm (ax_al_q (fun t1 a1 q => S1.2.2.1 t o hlt _ (by rw [ax_sz1 hk1]; exact hg.1.2) t1 a1 (hg.2.trans q))) S5, S6⟩
      exact W.aald hx hb e1 e2 hrf e3 (fun q => q.elim hg.1.1 (fun q => absurd hg.1.2 (by omega))) e7 rfl rfl hd k
theorem ax_s55 (X : ax_cx p l e R s mM args below meth c D dA Hb h0 ro d m hF hS) {nx a b : Nat} {n : Int32} {pc : Nat} {L : AL} {st : List AV} {h : AH} (hd : decode (ax_bc m) pc = .ok (ax_enc pc (55, nx, a, b, n), nx - pc)) (hs : ax_side m pc (55, nx, a, b, n) = true) (ho : ax_op (ax_call d) (ax_st (55, nx, a, b, n) m L st h) (ax_gd p l e R s mM args below meth c QF D dA Hb h0 ro ρ0 hF hS m) Q0) : ax_gd p l e R s mM args below meth c QF D dA Hb h0 ro ρ0 hF hS m (m, pc, L, st) h := by
  obtain ⟨hx, hb, hml, hown, hts, henv, hnm, hsb, hrm, hm⟩ := X
  change ax_op (ax_call d) (st_lld m nx L st h) (ax_gd p l e R s mM args below meth c QF D dA Hb h0 ro ρ0 hF hS m) Q0 at ho
  obtain rfl := ax_nxt hs
  rw [Nat.add_sub_cancel_left] at hd
  match st, ho with
  | .inl i :: .inr (.inr (some (t, o))) :: st, ho =>
    unfold st_lld at ho
    dsimp only at ho
    cases hoc : (ax_a1 t 8) with
    | false => rw [hoc] at ho; exact ho.elim
    | true =>
      rw [hoc] at ho
      obtain ⟨hg, ho⟩ := ho
      have ho : ax_gd p l e R s mM args below meth c QF D dA Hb h0 ro ρ0 hF hS m (m, pc + 1, L, .inr (.inl (ax_lE (h.1 t o i.toNatClampNeg) (h.1 t o (ax_len h t o + i.toNatClampNeg)))) :: st) h := ho
      refine ⟨rfl, ho.2.1, fun ρ H locs ls S => ?_⟩
      obtain ⟨S1, S2, S3, S4, S5, S6⟩ := S
      obtain ⟨-, S5⟩ := ax_fm1 S5
      obtain ⟨hal, S5⟩ := ax_fm1 S5
      have hlt := hal t o rfl
      unfold ax_a1 at hoc
      rw [Bool.and_eq_true] at hoc
      have hz0 := Nat.eq_of_beq_eq_true hoc.2
      have har : ax_ar t = true := by unfold ax_ar; rw [hoc.1]; rfl
      obtain ⟨cell, e1, e2, e3, -, e5, e6⟩ := ax_warr henv S1 har hlt
      rw [hz0] at e2 e6
      have k := ho.2.2 ρ H locs ls ⟨S1, S2, S3, S4, ax_fm ax_al_l S5, S6⟩
      exact W.lald hx hb e1 e2 e3 (fun q => q.elim hg.1 (fun q => absurd hg.2 (by omega))) (e6 _ hg.2) rfl rfl hd k
theorem ax_s32 (X : ax_cx p l e R s mM args below meth c D dA Hb h0 ro d m hF hS) {nx a b : Nat} {n : Int32} {pc : Nat} {L : AL} {st : List AV} {h : AH} (hd : decode (ax_bc m) pc = .ok (ax_enc pc (32, nx, a, b, n), nx - pc)) (hs : ax_side m pc (32, nx, a, b, n) = true) (ho : ax_op (ax_call d) (ax_st (32, nx, a, b, n) m L st h) (ax_gd p l e R s mM args below meth c QF D dA Hb h0 ro ρ0 hF hS m) Q0) : ax_gd p l e R s mM args below meth c QF D dA Hb h0 ro ρ0 hF hS m (m, pc, L, st) h := by
  obtain ⟨hx, hb, hml, hown, hts, henv, hnm, hsb, hrm, hm⟩ := X
  change ax_op (ax_call d) (st_ist m nx L st h) (ax_gd p l e R s mM args below meth c QF D dA Hb h0 ro ρ0 hF hS m) Q0 at ho
  obtain rfl := ax_nxt hs
  rw [Nat.add_sub_cancel_left] at hd
  match st, ho with
  | .inl v :: .inl i :: .inr (.inr (some (t, o))) :: st, ho =>
    unfold st_ist at ho
    dsimp only at ho
    cases hoc : (ax_a1 t 0) with
    | false => rw [hoc] at ho; exact ho.elim
    | true =>
      rw [hoc] at ho
      obtain ⟨hg, ho⟩ := ho
      have ho : ax_gd p l e R s mM args below meth c QF D dA Hb h0 ro ρ0 hF hS m (m, pc + 1, L, st) (ax_wI h.1 t o i.toNatClampNeg v, h.2) := ho
      refine ⟨rfl, ho.2.1, fun ρ H locs ls S => ?_⟩
      obtain ⟨S1, S2, S3, S4, S5, S6, S7, S8⟩ := S
      obtain ⟨hav, S5⟩ := ax_fm1 S5
      obtain ⟨-, S5⟩ := ax_fm1 S5
      obtain ⟨hal, S5⟩ := ax_fm1 S5
      have hlt := hal t o rfl
      unfold ax_a1 at hoc
      rw [Bool.and_eq_true] at hoc
      have hk1 := Nat.eq_of_beq_eq_true hoc.1
      have hz0 := Nat.eq_of_beq_eq_true hoc.2
      have e1 := (S1.1 t o (by unfold ax_own; omega) hlt).1.2 hk1
      have hba := (S1.1 t o (by unfold ax_own; omega) hlt).2
      have hC := (henv.1.2 (ax_sk t).2 _ (ax_tys_get (ax_sk1_lt hk1))).1 (ax_len h t o) (ax_eval ρ h t o (ax_sk t).2)
      rw [hz0] at hC
      refine W.iast hx hb e1 (by rw [hz0]; exact hC) (fun q => by cases q) (fun q => q.elim hg.1 (fun q => by rw [arrV_size] at q; exact absurd hg.2 (by omega))) rfl rfl hd (fun H' f1 f2 f3 => ?_)
      refine ho.2.2 ρ H' _ ls ⟨ax_wst S1 hk1 hlt f1 f2 f3 rfl (fun x y k q => if_neg (fun z => q ⟨z.1, z.2.1⟩)) (fun _ _ _ _ => rfl) (fun k _ => ax_ev_I (by rw [hz0]; rfl) k) (S1.2.2.1 t o hlt), S2, S3, S4, S5, S6, fun q hq => ?_, S8⟩
      rcases List.mem_append.mp hq with q1 | q1
      · exact S7 q q1
      · rw [List.mem_singleton.mp q1]; exact hba
theorem ax_s34 (X : ax_cx p l e R s mM args below meth c D dA Hb h0 ro d m hF hS) {nx a b : Nat} {n : Int32} {pc : Nat} {L : AL} {st : List AV} {h : AH} (hd : decode (ax_bc m) pc = .ok (ax_enc pc (34, nx, a, b, n), nx - pc)) (hs : ax_side m pc (34, nx, a, b, n) = true) (ho : ax_op (ax_call d) (ax_st (34, nx, a, b, n) m L st h) (ax_gd p l e R s mM args below meth c QF D dA Hb h0 ro ρ0 hF hS m) Q0) : ax_gd p l e R s mM args below meth c QF D dA Hb h0 ro ρ0 hF hS m (m, pc, L, st) h := by
  obtain ⟨hx, hb, hml, hown, hts, henv, hnm, hsb, hrm, hm⟩ := X
  change ax_op (ax_call d) (st_bst m nx L st h) (ax_gd p l e R s mM args below meth c QF D dA Hb h0 ro ρ0 hF hS m) Q0 at ho
  obtain rfl := ax_nxt hs
  rw [Nat.add_sub_cancel_left] at hd
  match st, ho with
  | .inl v :: .inl i :: .inr (.inr (some (t, o))) :: st, ho =>
    unfold st_bst at ho
    dsimp only at ho
    cases hoc : (ax_a1 t 1) with
    | false =>
      rw [hoc] at ho
      dsimp only [cond_false] at ho
      cases hoc : ax_a1 t 2 with
      | false => rw [hoc] at ho; exact ho.elim
      | true =>
        rw [hoc] at ho
        obtain ⟨hg, ho⟩ := ho
        have ho : ax_gd p l e R s mM args below meth c QF D dA Hb h0 ro ρ0 hF hS m (m, pc + 1, L, st) (ax_wI h.1 t o i.toNatClampNeg v, h.2) := ho
        refine ⟨rfl, ho.2.1, fun ρ H locs ls S => ?_⟩
        obtain ⟨S1, S2, S3, S4, S5, S6, S7, S8⟩ := S
        obtain ⟨hav, S5⟩ := ax_fm1 S5
        obtain ⟨-, S5⟩ := ax_fm1 S5
        obtain ⟨hal, S5⟩ := ax_fm1 S5
        have hlt := hal t o rfl
        unfold ax_a1 at hoc
        rw [Bool.and_eq_true] at hoc
        have hk1 := Nat.eq_of_beq_eq_true hoc.1
        have hz0 := Nat.eq_of_beq_eq_true hoc.2
        have e1 := (S1.1 t o (by unfold ax_own; omega) hlt).1.2 hk1
        have hba := (S1.1 t o (by unfold ax_own; omega) hlt).2
        have hC := (henv.1.2 (ax_sk t).2 _ (ax_tys_get (ax_sk1_lt hk1))).1 (ax_len h t o) (ax_eval ρ h t o (ax_sk t).2)
        rw [hz0] at hC
        refine W.zast hx hb e1 (by rw [hz0]; exact hC) (fun q => by cases q) (fun q => q.elim hg.2.1 (fun q => by rw [arrV_size] at q; exact absurd hg.2.2 (by omega))) rfl rfl hd (fun H' f1 f2 f3 => ?_)
        have nz : narrow .boolean (.int v) = .int v := by rcases hg.1 with e | e <;> rw [e] <;> decide
        rw [nz] at f1
        refine ho.2.2 ρ H' _ ls ⟨ax_wst S1 hk1 hlt f1 f2 f3 rfl (fun x y k q => if_neg (fun z => q ⟨z.1, z.2.1⟩)) (fun _ _ _ _ => rfl) (fun k _ => ax_ev_I (by rw [hz0]; rfl) k) (S1.2.2.1 t o hlt), S2, S3, S4, S5, S6, fun q hq => ?_, S8⟩
        rcases List.mem_append.mp hq with q1 | q1
        · exact S7 q q1
        · rw [List.mem_singleton.mp q1]; exact hba
    | true =>
      rw [hoc] at ho
      obtain ⟨hg, ho⟩ := ho
      have ho : ax_gd p l e R s mM args below meth c QF D dA Hb h0 ro ρ0 hF hS m (m, pc + 1, L, st) (ax_wI h.1 t o i.toNatClampNeg v.toInt8.toInt32, h.2) := ho
      refine ⟨rfl, ho.2.1, fun ρ H locs ls S => ?_⟩
      obtain ⟨S1, S2, S3, S4, S5, S6, S7, S8⟩ := S
      obtain ⟨hav, S5⟩ := ax_fm1 S5
      obtain ⟨-, S5⟩ := ax_fm1 S5
      obtain ⟨hal, S5⟩ := ax_fm1 S5
      have hlt := hal t o rfl
      unfold ax_a1 at hoc
      rw [Bool.and_eq_true] at hoc
      have hk1 := Nat.eq_of_beq_eq_true hoc.1
      have hz0 := Nat.eq_of_beq_eq_true hoc.2
      have e1 := (S1.1 t o (by unfold ax_own; omega) hlt).1.2 hk1
      have hba := (S1.1 t o (by unfold ax_own; omega) hlt).2
      have hC := (henv.1.2 (ax_sk t).2 _ (ax_tys_get (ax_sk1_lt hk1))).1 (ax_len h t o) (ax_eval ρ h t o (ax_sk t).2)
      rw [hz0] at hC
      refine W.bast hx hb e1 (by rw [hz0]; exact hC) (fun q => by cases q) (fun q => q.elim hg.1 (fun q => by rw [arrV_size] at q; exact absurd hg.2 (by omega))) rfl rfl hd (fun H' f1 f2 f3 => ?_)
      refine ho.2.2 ρ H' _ ls ⟨ax_wst S1 hk1 hlt f1 f2 f3 rfl (fun x y k q => if_neg (fun z => q ⟨z.1, z.2.1⟩)) (fun _ _ _ _ => rfl) (fun k _ => ax_ev_I (by rw [hz0]; rfl) k) (S1.2.2.1 t o hlt), S2, S3, S4, S5, S6, fun q hq => ?_, S8⟩
      rcases List.mem_append.mp hq with q1 | q1
      · exact S7 q q1
      · rw [List.mem_singleton.mp q1]; exact hba
theorem ax_s56 (X : ax_cx p l e R s mM args below meth c D dA Hb h0 ro d m hF hS) {nx a b : Nat} {n : Int32} {pc : Nat} {L : AL} {st : List AV} {h : AH} (hd : decode (ax_bc m) pc = .ok (ax_enc pc (56, nx, a, b, n), nx - pc)) (hs : ax_side m pc (56, nx, a, b, n) = true) (ho : ax_op (ax_call d) (ax_st (56, nx, a, b, n) m L st h) (ax_gd p l e R s mM args below meth c QF D dA Hb h0 ro ρ0 hF hS m) Q0) : ax_gd p l e R s mM args below meth c QF D dA Hb h0 ro ρ0 hF hS m (m, pc, L, st) h := by
  obtain ⟨hx, hb, hml, hown, hts, henv, hnm, hsb, hrm, hm⟩ := X
  change ax_op (ax_call d) (st_lst m nx L st h) (ax_gd p l e R s mM args below meth c QF D dA Hb h0 ro ρ0 hF hS m) Q0 at ho
  obtain rfl := ax_nxt hs
  rw [Nat.add_sub_cancel_left] at hd
  match st, ho with
  | .inr (.inl v) :: .inl i :: .inr (.inr (some (t, o))) :: st, ho =>
    unfold st_lst at ho
    dsimp only at ho
    cases hoc : (ax_a1 t 8) with
    | false => rw [hoc] at ho; exact ho.elim
    | true =>
      rw [hoc] at ho
      obtain ⟨hg, ho⟩ := ho
      have ho : ax_gd p l e R s mM args below meth c QF D dA Hb h0 ro ρ0 hF hS m (m, pc + 1, L, st) (ax_wI (ax_wI h.1 t o i.toNatClampNeg (ax_lhi v)) t o (ax_len h t o + i.toNatClampNeg) (ax_llo v), h.2) := ho
      refine ⟨rfl, ho.2.1, fun ρ H locs ls S => ?_⟩
      obtain ⟨S1, S2, S3, S4, S5, S6, S7, S8⟩ := S
      obtain ⟨hav, S5⟩ := ax_fm1 S5
      obtain ⟨-, S5⟩ := ax_fm1 S5
      obtain ⟨hal, S5⟩ := ax_fm1 S5
      have hlt := hal t o rfl
      unfold ax_a1 at hoc
      rw [Bool.and_eq_true] at hoc
      have hk1 := Nat.eq_of_beq_eq_true hoc.1
      have hz0 := Nat.eq_of_beq_eq_true hoc.2
      have e1 := (S1.1 t o (by unfold ax_own; omega) hlt).1.2 hk1
      have hba := (S1.1 t o (by unfold ax_own; omega) hlt).2
      have hC := (henv.1.2 (ax_sk t).2 _ (ax_tys_get (ax_sk1_lt hk1))).1 (ax_len h t o) (ax_eval ρ h t o (ax_sk t).2)
      rw [hz0] at hC
      refine W.last hx hb e1 (by rw [hz0]; exact hC) (fun q => by cases q) (fun q => q.elim hg.1.1 (fun q => by rw [arrV_size] at q; exact absurd hg.1.2 (by omega))) rfl rfl hd (fun H' f1 f2 f3 => ?_)
      refine ho.2.2 ρ H' _ ls ⟨ax_wst S1 hk1 hlt f1 f2 f3 rfl (fun x y k q => (if_neg (fun z => q ⟨z.1, z.2.1⟩)).trans (if_neg (fun z => q ⟨z.1, z.2.1⟩))) (fun _ _ _ _ => rfl) (fun k hk => by rw [hz0]; exact ax_ev_L hg.1.2 hg.2 k hk) (S1.2.2.1 t o hlt), S2, S3, S4, S5, S6, fun q hq => ?_, S8⟩
      rcases List.mem_append.mp hq with q1 | q1
      · exact S7 q q1
      · rw [List.mem_singleton.mp q1]; exact hba
theorem ax_s36 (X : ax_cx p l e R s mM args below meth c D dA Hb h0 ro d m hF hS) {nx a b : Nat} {n : Int32} {pc : Nat} {L : AL} {st : List AV} {h : AH} (hd : decode (ax_bc m) pc = .ok (ax_enc pc (36, nx, a, b, n), nx - pc)) (hs : ax_side m pc (36, nx, a, b, n) = true) (ho : ax_op (ax_call d) (ax_st (36, nx, a, b, n) m L st h) (ax_gd p l e R s mM args below meth c QF D dA Hb h0 ro ρ0 hF hS m) Q0) : ax_gd p l e R s mM args below meth c QF D dA Hb h0 ro ρ0 hF hS m (m, pc, L, st) h := by
  obtain ⟨hx, hb, hml, hown, hts, henv, hnm, hsb, hrm, hm⟩ := X
  change ax_op (ax_call d) (st_ast m nx L st h) (ax_gd p l e R s mM args below meth c QF D dA Hb h0 ro ρ0 hF hS m) Q0 at ho
  obtain rfl := ax_nxt hs
  rw [Nat.add_sub_cancel_left] at hd
  match st, ho with
  | .inr (.inr r) :: .inl i :: .inr (.inr (some (t, o))) :: st, ho =>
    unfold st_ast at ho
    dsimp only at ho
    cases hoc : (ax_aq t && Nat.ble (ax_sk t).2 6) with
    | false => rw [hoc] at ho; exact ho.elim
    | true =>
      rw [hoc] at ho
      obtain ⟨⟨hg, hrk⟩, ho⟩ := ho
      have ho : ax_gd p l e R s mM args below meth c QF D dA Hb h0 ro ρ0 hF hS m (m, pc + 1, L, st) (h.1, ax_wR h.2.1 t o i.toNatClampNeg r, h.2.2) := ho
      refine ⟨rfl, ho.2.1, fun ρ H locs ls S => ?_⟩
      obtain ⟨S1, S2, S3, S4, S5, S6, S7, S8⟩ := S
      obtain ⟨hav, S5⟩ := ax_fm1 S5
      obtain ⟨-, S5⟩ := ax_fm1 S5
      obtain ⟨hal, S5⟩ := ax_fm1 S5
      have hlt := hal t o rfl
      rw [Bool.and_eq_true] at hoc
      obtain ⟨hoc, h6⟩ := hoc
      unfold ax_aq at hoc
      rw [Bool.and_eq_true, Bool.and_eq_true] at hoc
      have hk1 := Nat.eq_of_beq_eq_true hoc.1
      have h3 := hoc.2.1
      have h8 := ax_rb8 hoc.2.2
      have e1 := (S1.1 t o (by unfold ax_own; omega) hlt).1.2 hk1
      have hba := (S1.1 t o (by unfold ax_own; omega) hlt).2
      obtain ⟨hC, hRA⟩ := henv.1.2 (ax_sk t).2 _ (ax_tys_get (ax_sk1_lt hk1))
      have hty : ax_t2 (ax_sk t).2 = .object (ax_cn (ax_tc (ax_sk t).2)) ∧ ax_tc (ax_sk t).2 < 13 := ax_t2_obj (Nat.le_of_ble_eq_true h3) (Nat.le_of_ble_eq_true h6)
      have hC := hC (ax_len h t o) (ax_eval ρ h t o (ax_sk t).2)
      rw [hty.1] at hC hRA
      have done : ∀ (H' : Heap) (lo : Loc), lo.base = ρ t o → H'[ρ t o]? = some ((arrV (dA (ax_sk t).2) (ax_len h t o) (ax_eval ρ h t o (ax_sk t).2)).setSlot i.toNatClampNeg (ax_rv ρ r)) → H'.size = H.size → (∀ q, q ≠ ρ t o → H'[q]? = H[q]?) → W p l e R s mM args below meth c H' (locs ++ [lo]) (h.2.2.2.2.1 - hS.2.2.2.2.1) (h.2.2.2.2.2 - hS.2.2.2.2.2) QF (F0 mM (pc + 1) ls (st.map (ax_cv ρ))) := by
        intro H' lo hlo f1 f2 f3
        refine ho.2.2 ρ H' _ ls ⟨ax_wst S1 hk1 hlt f1 f2 f3 rfl (fun _ _ _ _ => rfl) (fun x y k q => if_neg (fun z => q ⟨z.1, z.2.1⟩)) (fun k _ => ax_ev_R h8 h3 k) ?_, S2, S3, S4, S5, S6, fun q hq => ?_, S8⟩
        · intro j hj t1 b1 e9
          have e9 : ax_wR h.2.1 t o i.toNatClampNeg r t o j = some (t1, b1) := e9
          by_cases e : j = i.toNatClampNeg
          · subst e
            unfold ax_wR at e9
            rw [if_pos ⟨rfl, rfl, rfl⟩] at e9
            exact hav t1 b1 (by rw [e9])
          · have e8 : ax_wR h.2.1 t o i.toNatClampNeg r t o j = h.2.1 t o j := if_neg (fun z => e z.2.2)
            rw [e8] at e9
            exact S1.2.2.1 t o hlt j hj t1 b1 e9
        · rcases List.mem_append.mp hq with q1 | q1
          · exact S7 q q1
          · rw [List.mem_singleton.mp q1, hlo]; exact hba
      rcases hrk with rfl | ⟨x, rfl⟩
      · exact va_WaastN hx hb e1 hC (fun q => by cases q) (fun q => q.elim hg.1 (fun q => by rw [arrV_size] at q; exact absurd hg.2 (by omega))) rfl rfl hd (fun H' f1 f2 f3 => done H' _ rfl f1 f2 f3)
      · have hxl := hav (ax_tc (ax_sk t).2) x rfl
        have hskc : ax_sk (ax_tc (ax_sk t).2) = (0, ax_tc (ax_sk t).2) := ax_sk_cls hty.2
        obtain ⟨cellV, g1, g2, g3, -⟩ := (S1.1 (ax_tc (ax_sk t).2) x (by unfold ax_own; rw [hskc]; simp) hxl).1.1 (by rw [hskc])
        rw [hskc] at g2
        have hcls := (henv.1.1 _ _ (ax_cls_get hty.2)).2
        obtain ⟨kA, comp, k1, k2, k3, -⟩ := hRA
        have hcomp : comp = D.1 (ax_tc (ax_sk t).2) := Option.some.inj (k3.symm.trans hcls.1)
        subst hcomp
        obtain ⟨kC, hkC, -⟩ := hcls.2
        exact W.aast hx hb e1 (fun q h => by cases h) (fun h => by cases h) k1 k2 rfl hkC ⟨hg.1, by rw [arrV_size]; exact hg.2⟩ g1 (fun q h => by rw [g3] at h; cases h) (by rw [g2]; exact hkC) (by rw [g2]; exact va_assign hcls) rfl rfl hd (fun H' f1 f2 f3 => done H' _ rfl f1 f2 f3)
theorem ax_s37 (X : ax_cx p l e R s mM args below meth c D dA Hb h0 ro d m hF hS) {nx a b : Nat} {n : Int32} {pc : Nat} {L : AL} {st : List AV} {h : AH} (hd : decode (ax_bc m) pc = .ok (ax_enc pc (37, nx, a, b, n), nx - pc)) (hs : ax_side m pc (37, nx, a, b, n) = true) (ho : ax_op (ax_call d) (ax_st (37, nx, a, b, n) m L st h) (ax_gd p l e R s mM args below meth c QF D dA Hb h0 ro ρ0 hF hS m) Q0) : ax_gd p l e R s mM args below meth c QF D dA Hb h0 ro ρ0 hF hS m (m, pc, L, st) h := by
  obtain ⟨hx, hb, hml, hown, hts, henv, hnm, hsb, hrm, hm⟩ := X
  change ax_op (ax_call d) (st_dup m nx L st h) (ax_gd p l e R s mM args below meth c QF D dA Hb h0 ro ρ0 hF hS m) Q0 at ho
  obtain rfl := ax_nxt hs
  rw [Nat.add_sub_cancel_left] at hd
  match st, ho with
  | v :: st, ho =>
    unfold st_dup at ho
    dsimp only at ho
    cases hoc : (Nat.beq (ax_cat v) 1) with
    | false => rw [hoc] at ho; exact ho.elim
    | true =>
      rw [hoc] at ho
      have ho : ax_gd p l e R s mM args below meth c QF D dA Hb h0 ro ρ0 hF hS m (m, pc + 1, L, v :: v :: st) h := ho
      refine ⟨rfl, ho.2.1, fun ρ H locs ls S => ?_⟩
      obtain ⟨S1, S2, S3, S4, S5, S6⟩ := S
      have k := ho.2.2 ρ H locs ls ⟨S1, S2, S3, S4, ax_fm (ax_fm1 S5).1 S5, S6⟩
      exact lv_dup hx hb hd (by rw [ax_cv_cat]; exact Nat.eq_of_beq_eq_true hoc) k
theorem ax_s38 (X : ax_cx p l e R s mM args below meth c D dA Hb h0 ro d m hF hS) {nx a b : Nat} {n : Int32} {pc : Nat} {L : AL} {st : List AV} {h : AH} (hd : decode (ax_bc m) pc = .ok (ax_enc pc (38, nx, a, b, n), nx - pc)) (hs : ax_side m pc (38, nx, a, b, n) = true) (ho : ax_op (ax_call d) (ax_st (38, nx, a, b, n) m L st h) (ax_gd p l e R s mM args below meth c QF D dA Hb h0 ro ρ0 hF hS m) Q0) : ax_gd p l e R s mM args below meth c QF D dA Hb h0 ro ρ0 hF hS m (m, pc, L, st) h := by
  obtain ⟨hx, hb, hml, hown, hts, henv, hnm, hsb, hrm, hm⟩ := X
  change ax_op (ax_call d) (st_dup2 m nx L st h) (ax_gd p l e R s mM args below meth c QF D dA Hb h0 ro ρ0 hF hS m) Q0 at ho
  obtain rfl := ax_nxt hs
  rw [Nat.add_sub_cancel_left] at hd
  match st, ho with
  | v :: u :: st, ho =>
    unfold st_dup2 at ho
    dsimp only at ho
    cases hoc : (Nat.beq (ax_cat v) 1 && Nat.beq (ax_cat u) 1) with
    | false => rw [hoc] at ho; exact ho.elim
    | true =>
      rw [hoc] at ho
      have ho : ax_gd p l e R s mM args below meth c QF D dA Hb h0 ro ρ0 hF hS m (m, pc + 1, L, v :: u :: v :: u :: st) h := ho
      refine ⟨rfl, ho.2.1, fun ρ H locs ls S => ?_⟩
      obtain ⟨S1, S2, S3, S4, S5, S6⟩ := S
      have k := ho.2.2 ρ H locs ls ⟨S1, S2, S3, S4, ax_fm (ax_fm1 S5).1 (ax_fm (ax_fm1 (ax_fm1 S5).2).1 S5), S6⟩
      rw [Bool.and_eq_true] at hoc
      exact lv_dup2_11 hx hb hd (by rw [ax_cv_cat]; exact Nat.eq_of_beq_eq_true hoc.1) (by rw [ax_cv_cat]; exact Nat.eq_of_beq_eq_true hoc.2) k
theorem ax_s39 (X : ax_cx p l e R s mM args below meth c D dA Hb h0 ro d m hF hS) {nx a b : Nat} {n : Int32} {pc : Nat} {L : AL} {st : List AV} {h : AH} (hd : decode (ax_bc m) pc = .ok (ax_enc pc (39, nx, a, b, n), nx - pc)) (hs : ax_side m pc (39, nx, a, b, n) = true) (ho : ax_op (ax_call d) (ax_st (39, nx, a, b, n) m L st h) (ax_gd p l e R s mM args below meth c QF D dA Hb h0 ro ρ0 hF hS m) Q0) : ax_gd p l e R s mM args below meth c QF D dA Hb h0 ro ρ0 hF hS m (m, pc, L, st) h := by
  obtain ⟨hx, hb, hml, hown, hts, henv, hnm, hsb, hrm, hm⟩ := X
  change ax_op (ax_call d) (st_pop m nx L st h) (ax_gd p l e R s mM args below meth c QF D dA Hb h0 ro ρ0 hF hS m) Q0 at ho
  obtain rfl := ax_nxt hs
  rw [Nat.add_sub_cancel_left] at hd
  match st, ho with
  | v :: st, ho =>
    unfold st_pop at ho
    dsimp only at ho
    cases hoc : (Nat.beq (ax_cat v) 1) with
    | false => rw [hoc] at ho; exact ho.elim
    | true =>
      rw [hoc] at ho
      have ho : ax_gd p l e R s mM args below meth c QF D dA Hb h0 ro ρ0 hF hS m (m, pc + 1, L, st) h := ho
      refine ⟨rfl, ho.2.1, fun ρ H locs ls S => ?_⟩
      obtain ⟨S1, S2, S3, S4, S5, S6⟩ := S
      have k := ho.2.2 ρ H locs ls ⟨S1, S2, S3, S4, (ax_fm1 S5).2, S6⟩
      exact lv_pop hx hb hd (by rw [ax_cv_cat]; exact Nat.eq_of_beq_eq_true hoc) k
theorem ax_s40 (X : ax_cx p l e R s mM args below meth c D dA Hb h0 ro d m hF hS) {nx a b : Nat} {n : Int32} {pc : Nat} {L : AL} {st : List AV} {h : AH} (hd : decode (ax_bc m) pc = .ok (ax_enc pc (40, nx, a, b, n), nx - pc)) (hs : ax_side m pc (40, nx, a, b, n) = true) (ho : ax_op (ax_call d) (ax_st (40, nx, a, b, n) m L st h) (ax_gd p l e R s mM args below meth c QF D dA Hb h0 ro ρ0 hF hS m) Q0) : ax_gd p l e R s mM args below meth c QF D dA Hb h0 ro ρ0 hF hS m (m, pc, L, st) h := by
  obtain ⟨hx, hb, hml, hown, hts, henv, hnm, hsb, hrm, hm⟩ := X
  obtain rfl := ax_nxt hs
  rw [Nat.add_sub_cancel_left] at hd
  have ho : ax_gd p l e R s mM args below meth c QF D dA Hb h0 ro ρ0 hF hS m (m, pc + 1, L, .inr (.inr none) :: st) h := ho
  refine ⟨rfl, ho.2.1, fun ρ H locs ls S => ?_⟩
  have k := ho.2.2 ρ H locs ls ⟨S.1, S.2.1, S.2.2.1, S.2.2.2.1, ax_fm ax_al_n S.2.2.2.2.1, S.2.2.2.2.2⟩
  exact lv_null hx hb hd k
theorem ax_s41 (X : ax_cx p l e R s mM args below meth c D dA Hb h0 ro d m hF hS) {nx a b : Nat} {n : Int32} {pc : Nat} {L : AL} {st : List AV} {h : AH} (hd : decode (ax_bc m) pc = .ok (ax_enc pc (41, nx, a, b, n), nx - pc)) (hs : ax_side m pc (41, nx, a, b, n) = true) (ho : ax_op (ax_call d) (ax_st (41, nx, a, b, n) m L st h) (ax_gd p l e R s mM args below meth c QF D dA Hb h0 ro ρ0 hF hS m) Q0) : ax_gd p l e R s mM args below meth c QF D dA Hb h0 ro ρ0 hF hS m (m, pc, L, st) h := by
  obtain ⟨hx, hb, hml, hown, hts, henv, hnm, hsb, hrm, hm⟩ := X
  simp only [ax_side, Bool.and_eq_true] at hs
  obtain ⟨h1, h2, h3⟩ := hs
  obtain rfl := ax_nxt h1
  rw [Nat.add_sub_cancel_left] at hd
  have ha : a < 14 := Nat.le_of_ble_eq_true h2
  have ho : ax_gd p l e R s mM args below meth c QF D dA Hb h0 ro ρ0 hF hS m (m, pc + 2, L, .inr (.inr (some (x_str, a))) :: st) h := ho
  refine ⟨rfl, ho.2.1, fun ρ H locs ls S => ?_⟩
  have hn : h.2.2.1 x_str = 14 := by rw [(S.1.2.2.2.2.1 x_str ax_no_str).2.2.1]; exact henv.2.2.2.2.2.1.2.1
  have k := ho.2.2 ρ H locs ls ⟨S.1, S.2.1, S.2.2.1, S.2.2.2.1, ax_fm (ax_al_r (by rw [hn]; exact ha)) S.2.2.2.2.1, S.2.2.2.2.2⟩
  have hro : ρ x_str a = ro x_str a := S.1.2.2.2.2.2 x_str a ax_no_str
  have hz := henv.2.2.2.2.2.2.1 a ha
  have ho1 : (ax_strs.getD a ("", 0, "")).1 = ax_cn (ax_mc m) := by
    rw [Nat.eq_of_beq_eq_true h3]
    have : ∀ a, a < 14 → (ax_strs.getD a ("", 0, "")).1 = ax_cn 6 := by decide +kernel
    exact this a ha
  rw [← hro, ho1] at hz
  exact va_ldcS hx hb hown hz hd k
theorem ax_s42 (X : ax_cx p l e R s mM args below meth c D dA Hb h0 ro d m hF hS) {nx a b : Nat} {n : Int32} {pc : Nat} {L : AL} {st : List AV} {h : AH} (hd : decode (ax_bc m) pc = .ok (ax_enc pc (42, nx, a, b, n), nx - pc)) (hs : ax_side m pc (42, nx, a, b, n) = true) (ho : ax_op (ax_call d) (ax_st (42, nx, a, b, n) m L st h) (ax_gd p l e R s mM args below meth c QF D dA Hb h0 ro ρ0 hF hS m) Q0) : ax_gd p l e R s mM args below meth c QF D dA Hb h0 ro ρ0 hF hS m (m, pc, L, st) h := by
  obtain ⟨hx, hb, hml, hown, hts, henv, hnm, hsb, hrm, hm⟩ := X
  change ax_op (ax_call d) (st_oin m nx L st h) (ax_gd p l e R s mM args below meth c QF D dA Hb h0 ro ρ0 hF hS m) Q0 at ho
  simp only [ax_side, Bool.and_eq_true, decide_eq_true_eq] at hs
  obtain ⟨h1, h2⟩ := hs
  obtain rfl := ax_nxt h1
  rw [Nat.add_sub_cancel_left] at hd
  match st, ho with
  | .inr (.inr (some (t, o))) :: st, ho =>
    unfold st_oin at ho
    dsimp only at ho
    cases hoc : (Nat.ble (ax_w st) 8 && Nat.beq (ax_sk t).1 0) with
    | false => rw [hoc] at ho; exact ho.elim
    | true =>
      rw [hoc] at ho
      rw [Bool.and_eq_true] at hoc
      have hw8 := Nat.le_of_ble_eq_true hoc.1
      have ho : ax_gd p l e R s mM args below meth c QF D dA Hb h0 ro ρ0 hF hS m (m, pc + 3, L, st) h := ho
      refine ⟨rfl, ho.2.1, fun ρ H locs ls S => ?_⟩
      obtain ⟨S1, S2, S3, S4, S5, S6⟩ := S
      have k := ho.2.2 ρ H locs ls ⟨S1, S2, S3, S4, (ax_fm1 S5).2, S6⟩
      refine W.objInit hx hb hown (hts _ h2) (hts _ ax_w_oi.1) (hts _ ax_w_oi.2) rfl (by rw [hml]; exact S6.1.1) rfl hd (by omega) ?_ k
      rw [ax_sum_w]
      show 2 * 0 + ax_w st + 12 ≤ R.locals
      omega
end SND
