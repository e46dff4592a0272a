theorem ax_nw_on : ∀ w ∈ ax_nw, w.onTables = true := by
  intro w hw
  unfold ax_nw at hw
  simp only [List.mem_cons, List.not_mem_nil, or_false] at hw
  rcases hw with rfl | rfl | rfl | rfl | rfl | rfl | rfl | rfl | rfl | rfl | rfl | rfl | rfl | rfl | rfl | rfl | rfl | rfl | rfl <;> rfl

def ax_Pc (D : va_G) (dA : Nat → ClassId) (Hb : Heap) (h0 : AH) (ro : Nat → Nat → Nat) (as : List AV) (h : AH) (ρ : Nat → Nat → Nat) : Array Value → State → Prop := fun v U => v = (as.map (ax_cv ρ)).toArray ∧ ax_wd D dA Hb h0 ro ρ h U.heap ∧ ax_env D dA Hb h0 ro U
def ax_Qc (D : va_G) (dA : Nat → ClassId) (Hb : Heap) (h0 : AH) (ro : Nat → Nat → Nat) (r : Option AV) (h h' : AH) (ρ : Nat → Nat → Nat) : Array Value → State → Outcome → State → Prop := fun _ _ o t => ∃ ρ' : Nat → Nat → Nat, (∀ s a, a < h.2.2.1 s → ρ' s a = ρ s a) ∧ o = .returned (r.map (ax_cv ρ')) ∧ ax_wd D dA Hb h0 ro ρ' h' t.heap ∧ ∀ v, r = some v → ax_alive h' v
def ax_ws (m : Nat) : List Cond := Cond.code (ax_y m) (ax_bc m) (ax_mL m) (ax_rt m) :: lw_all
def ax_rm (d mc ms : Nat) : Room := { frames := d, cells := mc, slots := ms, locals := 40 * d }
/-- all calls of depth d are met -/
def ax_mt (l : Launch) (D : va_G) (dA : Nat → ClassId) (Hb : Heap) (h0 : AH) (ro : Nat → Nat → Nat) (d : Nat) : Prop :=
  ∀ y, y < 255 → ∀ (as : List AV) (h : AH) (r : Option AV) (h' : AH), ax_call d y as h (fun r' h'' => r' = r ∧ h'' = h') → (h.2.2.2.2.1 ≤ h'.2.2.2.2.1 ∧ h.2.2.2.2.2 ≤ h'.2.2.2.2.2 ∧ ∀ s, h.2.2.1 s ≤ h'.2.2.1 s) ∧
    ∀ ρ : Nat → Nat → Nat, ax_w as ≤ ax_mL y → (∀ v ∈ as, ax_alive h v) → Met l (ax_y y) (ax_ws y) (ax_rm d (h'.2.2.2.2.1 - h.2.2.2.2.1) (h'.2.2.2.2.2 - h.2.2.2.2.2)) (ax_Pc D dA Hb h0 ro as h ρ) (ax_Qc D dA Hb h0 ro r h h' ρ) (h'.2.2.2.2.1 - h.2.2.2.2.1) (h'.2.2.2.2.2 - h.2.2.2.2.2) (fun q => Hb.size ≤ q)
theorem ax_env.same {D : va_G} {dA : Nat → ClassId} {Hb : Heap} {h0 : AH} {ro : Nat → Nat → Nat} {u U : State} (hv : u.vm = U.vm) (h : ax_env D dA Hb h0 ro u) : ax_env D dA Hb h0 ro U := by
  obtain ⟨e1, e2, e3, e4, ⟨e5, e6, e7⟩, e75, e8, e9, e10, e11, e12, e13⟩ := h
  have hA : u.vm.Alike U.vm := by rw [hv]; exact Vm.Alike.refl U.vm
  refine ⟨va_K.moved hA e1, fun w hw => va_Nw.same (ax_nw_on w hw) hv (e2 w hw), fun s a h1 h2 => va_T.moved hA (e3 s a h1 h2), fun a h1 => ⟨va_O.moved hA (e4 a h1).1, va_OF.moved hA (e4 a h1).2.1, va_OF.moved hA (e4 a h1).2.2⟩, ⟨fun a h1 => va_Z.moved hA (e5 a h1), va_Z.moved hA e6, va_Z.moved hA e7⟩, e75, fun a h1 => vk_R.same hv.symm (e8 a h1), va_AO.moved hA e9, va_AO.moved hA e10, va_AO.moved hA e11, va_AO.moved hA e12, ax_AOA.moved hA e13⟩
theorem ax_pop_spec : ∀ (n : Nat) (acc st as st' : List AV), ax_pop n acc st = some (as, st') → ∃ xs : List AV, xs.length = n ∧ st = xs ++ st' ∧ as = xs.reverse ++ acc
  | 0, acc, st, as, st', h => by cases h; exact ⟨[], rfl, rfl, rfl⟩
  | n + 1, acc, [], as, st', h => by cases h
  | n + 1, acc, v :: st, as, st', h => by
    obtain ⟨xs, h1, h2, h3⟩ := ax_pop_spec n (v :: acc) st as st' h
    exact ⟨v :: xs, by rw [List.length_cons, h1], by rw [h2]; rfl, by rw [h3, List.reverse_cons, List.append_assoc]; rfl⟩
theorem ax_good_ws {y : Nat} (hy : y < 255) : GoodIn lw_all (ax_ws y) := by
  have hc : Cond.code (ax_y y) (ax_bc y) (ax_mL y) (ax_rt y) ∈ lw_all := List.mem_filter.mpr ⟨ax_cw_all y hy, rfl⟩
  intro w hw
  rcases List.mem_cons.mp hw with rfl | hw
  · exact ⟨hc, good_of_word rfl⟩
  · exact ⟨hw, good_of_word (List.mem_filter.mp hw).2⟩
theorem ax_blind {D : va_G} {dA : Nat → ClassId} {Hb : Heap} {h0 : AH} {ro : Nat → Nat → Nat} {as : List AV} {h : AH} {ρ : Nat → Nat → Nat} : FrameBlind (ax_Pc D dA Hb h0 ro as h ρ) := fun a U g mk q => ⟨q.1, q.2.1, ax_env.same (u := U) (U := U.calling g mk a) rfl q.2.2⟩
/-- what a method is, out of the checks -/
theorem ax_mp_use {y : Nat} (hy : y < 255) : (Cond.initialized (ax_y y).cls ∈ lw_all) ∧ ((ax_y y).cls ≠ "java/lang/invoke/MethodHandle" ∧ (ax_y y).cls ≠ "java/lang/invoke/VarHandle" ∧ (parseMethodDescriptor (ax_y y).desc).map (fun d => d.parameters.length) = some (ax_mpj y).2.2.2.2.2) ∧ (ax_y y).cls = ax_cn (ax_mc y) ∧ plainName (ax_y y).cls = true ∧ ax_mL y ≤ 12 ∧
    (((ax_mpj y).2.1 = 1 → Cond.static (ax_y y) ∈ lw_all) ∧ ((ax_mpj y).2.1 ≠ 1 → Cond.instanceMethod (ax_y y) ∈ lw_all) ∧ ((ax_mpj y).2.1 ≠ 1 → (ax_y y).name ≠ "<init>" → Cond.selects (ax_y y).cls (ax_y y) (ax_y y) ∈ lw_all)) := by
  have h1 := ax_mp_all y hy
  unfold ax_mpok at h1
  rcases hq : ax_mpj y with ⟨cp, st, p2, p3, pi, np⟩
  rw [hq] at h1
  simp only [Bool.and_eq_true, decide_eq_true_eq, Bool.or_eq_true] at h1
  obtain ⟨h2, h3, h4, h5, h6, h7, h8⟩ := h1
  refine ⟨ax_in_all h3 rfl, h4, h5, h6, h7, fun e => ?_, fun e => ?_, fun e e2 => ?_⟩
  · have e : st = 1 := e
    subst e
    exact ax_in_all (of_decide_eq_true h2) rfl
  · have e : st ≠ 1 := e
    have e3 : Nat.beq st 1 = false := Bool.eq_false_iff.mpr (fun q => e (Nat.eq_of_beq_eq_true q))
    rw [e3] at h2
    exact ax_in_all (of_decide_eq_true h2) rfl
  · have e : st ≠ 1 := e
    rcases h8 with h8 | h8 | h8
    · exact absurd (Nat.eq_of_beq_eq_true h8) e
    · exact absurd h8 e2
    · exact ax_in_all h8 rfl
theorem ax_ml_use {j : Nat} (hj : j < 286) : ((ax_ml j).2.2.2.2.1 = 0 → Cond.methodLink (ax_cn (ax_ml j).1) (ax_ml j).2.1 (ax_y (ax_ml j).2.2.1) ∈ lw_all) ∧ ((ax_ml j).2.2.2.2.1 ≠ 0 → Cond.methodLinkNest (ax_cn (ax_ml j).1) (ax_ml j).2.1 (ax_y (ax_ml j).2.2.1) "SymmetryTax" ∈ ax_nw) ∧ ((ax_ml j).2.2.2.1 = 2 → (ax_y (ax_ml j).2.2.1).name = "<init>") ∧ ((ax_ml j).2.2.2.1 ≠ 2 → (ax_y (ax_ml j).2.2.1).name ≠ "<init>") ∧ ((ax_ml j).2.2.2.1 = 1 → (ax_ml j).2.2.2.2.1 = 0) := by
  have h1 := List.all_eq_true.mp ax_ml_all j (List.mem_range.mpr hj)
  unfold ax_mlok at h1
  rcases hq : ax_ml j with ⟨own, idx, y, kind, nest, pl, rest⟩
  rw [hq] at h1
  simp only [Bool.and_eq_true] at h1
  obtain ⟨h2, h3, h4, h5⟩ := h1
  refine ⟨fun e => ?_, fun e => ?_, fun e => ?_, fun e => ?_, fun e => ?_⟩
  · have e : nest = 0 := e
    subst e
    exact ax_in_all (of_decide_eq_true h2) rfl
  · have e : nest ≠ 0 := e
    have e3 : Nat.beq nest 0 = false := Bool.eq_false_iff.mpr (fun q => e (Nat.eq_of_beq_eq_true q))
    rw [e3] at h2
    exact of_decide_eq_true h2
  · have e : kind = 2 := e
    subst e
    exact of_decide_eq_true h4
  · have e : kind ≠ 2 := e
    have e3 : Nat.beq kind 2 = false := Bool.eq_false_iff.mpr (fun q => e (Nat.eq_of_beq_eq_true q))
    rw [e3] at h4
    exact of_decide_eq_true h4
  · have e : kind = 1 := e
    subst e
    exact Nat.eq_of_beq_eq_true h5
theorem ax_init_rt (y : Nat) (hy : y < 255) (h : (ax_y y).name = "<init>") : ax_rt y = none := by
  have : ∀ y, y < 255 → (ax_y y).name = "<init>" → ax_rt y = none := by decide +kernel
  exact this y hy h

/-- behind a call -/
theorem ax_wcall {p : Program} {l : Launch} {e : Env} {R : Room} {s : State} {mM : MethodId} {args : Array Value} {below : List Frame} {meth : Method} {c : Code} {QF : State → Prop} {D : va_G} {dA : Nat → ClassId} {Hb : Heap} {h0 hF hS : AH} {ro ρ0 : Nat → Nat → Nat} {m : Nat} {pc : Nat} {L : AL} {st st' : List AV} {h h1 : AH} {r1 : Option AV} {as : List AV} {a : Array Value} {ρ : Nat → Nat → Nat} {H : Heap} {locs : List Loc} {ls : Array Slot}
    (G : ax_gd p l e R s mM args below meth c QF D dA Hb h0 ro ρ0 hF hS m (m, pc + 3, L, ax_psh r1 st') h1) (S : ax_si D dA Hb h0 ro ρ0 hS m ρ h H L st ls locs) (S5 : ∀ v ∈ st', ax_alive h v) (hc : h.2.2.2.2.1 ≤ h1.2.2.2.2.1 ∧ h.2.2.2.2.2 ≤ h1.2.2.2.2.2 ∧ ∀ s, h.2.2.1 s ≤ h1.2.2.1 s)
    (run : va_Run p l e R s mM args below meth c H locs (h.2.2.2.2.1 - hS.2.2.2.2.1) (h.2.2.2.2.2 - hS.2.2.2.2.2) (h1.2.2.2.2.1 - h.2.2.2.2.1) (h1.2.2.2.2.2 - h.2.2.2.2.2) (F0 mM pc ls (st.map (ax_cv ρ))) (st'.map (ax_cv ρ)) (ax_Qc D dA Hb h0 ro r1 h h1 ρ a) (fun q => Hb.size ≤ q)) :
    W p l e R s mM args below meth c H locs (h.2.2.2.2.1 - hS.2.2.2.2.1) (h.2.2.2.2.2 - hS.2.2.2.2.2) QF (F0 mM pc ls (st.map (ax_cv ρ))) := by
  obtain ⟨S1, S2, S3, S4, -, S6, S7, S8⟩ := S
  intro T hT X0
  obtain ⟨v, st₀, t, T', Lc, q0, X', hL, e1, e2, ⟨ρ', r1', r2, r3, r4⟩, go⟩ := run T hT X0
  obtain rfl : v = r1.map (ax_cv ρ') := Outcome.returned.inj r2
  have hst : ∀ w ∈ ax_psh r1 st', ax_alive h1 w := by
    cases r1 with
    | none => exact fun w hw => (S5 w hw).mono hc.2.2
    | some w0 => exact ax_fm (r4 w0 rfl) (fun w hw => (S5 w hw).mono hc.2.2)
  have k := G.2.2 ρ' t.heap (locs ++ Lc) ls ⟨r3, fun x y h9 => (r1' x y (Nat.lt_of_lt_of_le h9 (S3 x))).trans (S2 x y h9), fun x => Nat.le_trans (S3 x) (hc.2.2 x), fun i w hi => (S4 i w hi).mono hc.2.2, hst, S6.ext S4 r1', fun q hq => (List.mem_append.mp hq).elim (S7 q) (hL q), Nat.le_trans S8.1 hc.1, Nat.le_trans S8.2 hc.2.1⟩
  have e5 : h1.2.2.2.2.1 - hS.2.2.2.2.1 = h.2.2.2.2.1 - hS.2.2.2.2.1 + (h1.2.2.2.2.1 - h.2.2.2.2.1) := by have := hc.1; have := S8.1; omega
  have e6 : h1.2.2.2.2.2 - hS.2.2.2.2.2 = h.2.2.2.2.2 - hS.2.2.2.2.2 + (h1.2.2.2.2.2 - h.2.2.2.2.2) := by have := hc.2.1; have := S8.2; omega
  rw [e5, e6] at k
  have e7 : (ax_psh r1 st').map (ax_cv ρ') = (r1.map (ax_cv ρ')).toList ++ st'.map (ax_cv ρ) := by
    cases r1 with
    | none => exact ax_map_ext S5 r1'
    | some w0 =>
      show ax_cv ρ' w0 :: st'.map (ax_cv ρ') = ax_cv ρ' w0 :: st'.map (ax_cv ρ)
      rw [ax_map_ext S5 r1']
  rw [e7] at k
  obtain ⟨t2, a1, b1⟩ := k T' e1 X'
  exact ⟨t2, go t2 a1, b1⟩
section SND
variable {p : Program} {l : Launch} {e : Env} {R : Room} {s : State} {mM : MethodId} {args : Array Value} {below : List Frame} {meth : Method} {c : Code} {QF : State → Prop} {D : va_G} {dA : Nat → ClassId} {Hb : Heap} {h0 hF hS : AH} {ro ρ0 : Nat → Nat → Nat} {d m : Nat} {Q0 : Option AV → AH → Prop}
theorem ax_s25 (X : ax_cx p l e R s mM args below meth c D dA Hb h0 ro d m hF hS) (IH : ax_mt l D dA Hb h0 ro d) {nx a b : Nat} {n : Int32} {pc : Nat} {L : AL} {st : List AV} {h : AH} (hd : decode (ax_bc m) pc = .ok (ax_enc pc (25, nx, a, b, n), nx - pc)) (hs : ax_side m pc (25, nx, a, b, n) = true) (ho : ax_op (ax_call d) (ax_st (25, nx, a, b, n) m L st h) (ax_gd p l e R s mM args below meth c QF D dA Hb h0 ro ρ0 hF hS m) Q0) : ax_gd p l e R s mM args below meth c QF D dA Hb h0 ro ρ0 hF hS m (m, pc, L, st) h := by
  obtain ⟨hx, hb, hml, hown, hts, henv, hnm, hsb, hrm, hm⟩ := X
  change ax_op (ax_call d) (st_call m nx a b L st h) (ax_gd p l e R s mM args below meth c QF D dA Hb h0 ro ρ0 hF hS m) Q0 at ho
  simp only [ax_side, Bool.and_eq_true] at hs
  obtain ⟨hn1, hsm, hkd, hst0⟩ := hs
  obtain rfl := ax_nxt hn1
  rw [Nat.add_sub_cancel_left] at hd
  unfold ax_sm at hsm
  simp only [Bool.and_eq_true] at hsm
  obtain ⟨g1, g2, g3, g4, g5⟩ := hsm
  have g1 := Nat.eq_of_beq_eq_true g1
  have g2 := Nat.eq_of_beq_eq_true g2
  have g3 : a < 255 := Nat.le_of_ble_eq_true g3
  have g5 := Nat.eq_of_beq_eq_true g5
  have hst0 := Nat.eq_of_beq_eq_true hst0
  obtain ⟨l1, l2, l3, l4, l5⟩ := ax_ml_use (Nat.le_of_ble_eq_true g4)
  rw [g1, g2] at l1 l2
  rw [g2] at l3 l4
  obtain ⟨m1, m2, m3, m4, m5, m6, m7, m8⟩ := ax_mp_use g3
  unfold st_call at ho
  cases hp : ax_pop b [] st with
  | none => rw [hp] at ho; exact ho.elim
  | some q =>
    obtain ⟨as, st'⟩ := q
    rw [hp] at ho
    dsimp only at ho
    cases hoc : (Nat.ble (ax_w st') 8 && Nat.ble (ax_w as) (ax_mL a)) with
    | false => rw [hoc] at ho; exact ho.elim
    | true =>
      rw [hoc] at ho
      rw [Bool.and_eq_true] at hoc
      have hw8 := Nat.le_of_ble_eq_true hoc.1
      have hwa : ax_w as ≤ ax_mL a := Nat.le_of_ble_eq_true hoc.2
      have ho : ax_call d a as h (fun r' h' => ax_gd p l e R s mM args below meth c QF D dA Hb h0 ro ρ0 hF hS m (m, pc + 3, L, ax_psh r' st') h') := ho
      obtain ⟨r1, h1, G, ex⟩ := ax_call_det d _ _ _ _ ho
      obtain ⟨hc, hM⟩ := IH a g3 as h r1 h1 (ex _ ⟨rfl, rfl⟩)
      obtain ⟨xs, x1, x2, x3⟩ := ax_pop_spec b [] st as st' hp
      rw [List.append_nil] at x3
      have x4 : xs = as.reverse := by rw [x3, List.reverse_reverse]
      have x5 : st = as.reverse ++ st' := by rw [x2, x4]
      have hnp : as.length = (ax_mpj a).2.2.2.2.2 := by
        rw [x3, List.length_reverse, x1, g5, hst0]
        rfl
      have hcn := G.2.1
      refine ⟨rfl, ⟨Nat.le_trans hc.1 G.2.1.1, Nat.le_trans hc.2.1 G.2.1.2⟩, fun ρ H locs ls S => ?_⟩
      have S5 := S.2.2.2.2.1
      have sal : (∀ v ∈ as, ax_alive h v) ∧ ∀ v ∈ st', ax_alive h v := by
        refine ⟨fun v hv => S5 v ?_, fun v hv => S5 v ?_⟩
        · show v ∈ st
          rw [x5]
          exact List.mem_append_left _ (List.mem_reverse.mpr hv)
        · show v ∈ st
          rw [x5]
          exact List.mem_append_right _ hv
      refine ax_wcall (as := as) (a := (as.map (ax_cv ρ)).toArray) G S sal.2 hc ?_
      have hpre : PreS s H (ax_Pc D dA Hb h0 ro as h ρ) (as.map (ax_cv ρ)) := ⟨ax_blind, fun U hU hW => ⟨rfl, by rw [hU]; exact S.1, henv.warm hW⟩⟩
      have hstk : (st.map (ax_cv ρ)) = (as.map (ax_cv ρ)).reverse ++ st'.map (ax_cv ρ) := by rw [x5, List.map_append, List.map_reverse]
      have hW8 : 2 * (F0 mM pc ls (st.map (ax_cv ρ))).monitorRoom + ((st'.map (ax_cv ρ)).map fun v => v.category).sum ≤ 8 := by rw [ax_sum_w]; show 2 * 0 + _ ≤ 8; omega
      have hroom : (ax_rm d (h1.2.2.2.2.1 - h.2.2.2.2.1) (h1.2.2.2.2.2 - h.2.2.2.2.2)).frames + 1 ≤ R.frames ∧ 8 + (ax_mL a + 11) + (ax_rm d (h1.2.2.2.2.1 - h.2.2.2.2.1) (h1.2.2.2.2.2 - h.2.2.2.2.2)).locals ≤ R.locals := ⟨hrm.1, by show 8 + (ax_mL a + 11) + 40 * d ≤ R.locals; have := hrm.2.1; omega⟩
      have hcells : h.2.2.2.2.1 - hS.2.2.2.2.1 + (h1.2.2.2.2.1 - h.2.2.2.2.1) ≤ R.cells ∧ h.2.2.2.2.2 - hS.2.2.2.2.2 + (h1.2.2.2.2.2 - h.2.2.2.2.2) ≤ R.slots := by
        have := hrm.2.2.1; have := hrm.2.2.2; have := hc.1; have := hc.2.1; have := S.2.2.2.2.2.2.2.1; have := S.2.2.2.2.2.2.2.2
        constructor <;> omega
      by_cases hne : (ax_ml n.toNatClampNeg).2.2.2.2.1 = 0
      · exact va_runS ⟨hx, hb, hml, hown, hts⟩ (hM ρ hwa sal.1) ⟨callB_of _ hts (ax_good_ws g3) rfl rfl rfl (hts _ m1) (hts _ (l1 hne)) m2 hroom, hts _ (m6 hst0)⟩ hpre rfl (by rw [List.length_map]; exact hnp) S.2.2.2.2.2.1.1 hstk hW8 hd hcells
      · exact va_runSN ⟨hx, hb, hml, hown, hts⟩ (hM ρ hwa sal.1) ⟨va_cnB _ hts (ax_good_ws g3) rfl rfl rfl (henv.2.1 _ (l2 hne)) (hts _ m1) m2 hroom, hts _ (m6 hst0), trivial⟩ hpre rfl (by rw [List.length_map]; exact hnp) S.2.2.2.2.2.1.1 hstk hW8 hd hcells
theorem ax_s52 (X : ax_cx p l e R s mM args below meth c D dA Hb h0 ro d m hF hS) (IH : ax_mt l D dA Hb h0 ro d) {nx a b : Nat} {n : Int32} {pc : Nat} {L : AL} {st : List AV} {h : AH} (hd : decode (ax_bc m) pc = .ok (ax_enc pc (52, nx, a, b, n), nx - pc)) (hs : ax_side m pc (52, nx, a, b, n) = true) (ho : ax_op (ax_call d) (ax_st (52, nx, a, b, n) m L st h) (ax_gd p l e R s mM args below meth c QF D dA Hb h0 ro ρ0 hF hS m) Q0) : ax_gd p l e R s mM args below meth c QF D dA Hb h0 ro ρ0 hF hS m (m, pc, L, st) h := by
  obtain ⟨hx, hb, hml, hown, hts, henv, hnm, hsb, hrm, hm⟩ := X
  change ax_op (ax_call d) (st_callv m nx a b L st h) (ax_gd p l e R s mM args below meth c QF D dA Hb h0 ro ρ0 hF hS m) Q0 at ho
  simp only [ax_side, Bool.and_eq_true] at hs
  obtain ⟨hn1, hsm, hkd, hst0⟩ := hs
  obtain rfl := ax_nxt hn1
  rw [Nat.add_sub_cancel_left] at hd
  unfold ax_sm at hsm
  simp only [Bool.and_eq_true] at hsm
  obtain ⟨g1, g2, g3, g4, g5⟩ := hsm
  have g1 := Nat.eq_of_beq_eq_true g1
  have g2 := Nat.eq_of_beq_eq_true g2
  have g3 : a < 255 := Nat.le_of_ble_eq_true g3
  have g5 := Nat.eq_of_beq_eq_true g5
  have hst0 := Nat.eq_of_beq_eq_true hst0
  obtain ⟨l1, l2, l3, l4, l5⟩ := ax_ml_use (Nat.le_of_ble_eq_true g4)
  rw [g1, g2] at l1 l2
  rw [g2] at l3 l4
  obtain ⟨m1, m2, m3, m4, m5, m6, m7, m8⟩ := ax_mp_use g3
  unfold st_callv at ho
  match hp : ax_pop b [] st, ho with
  | some (.inr (.inr (some (t, o))) :: as, st'), ho =>
    dsimp only at ho
    cases hoc : ((Nat.ble (ax_w st') 8 && Nat.ble (ax_w as + 1) (ax_mL a)) && ax_oc t (ax_mc a)) with
    | false => rw [hoc] at ho; exact ho.elim
    | true =>
      rw [hoc] at ho
      rw [Bool.and_eq_true, Bool.and_eq_true] at hoc
      have hw8 := Nat.le_of_ble_eq_true hoc.1.1
      have hwa : ax_w (.inr (.inr (some (t, o))) :: as) ≤ ax_mL a := by
        have := Nat.le_of_ble_eq_true hoc.1.2
        show 1 + ax_w as ≤ ax_mL a
        omega
      have ho : ax_call d a (.inr (.inr (some (t, o))) :: as) h (fun r' h' => ax_gd p l e R s mM args below meth c QF D dA Hb h0 ro ρ0 hF hS m (m, pc + 3, L, ax_psh r' st') h') := ho
      obtain ⟨r1, h1, G, ex⟩ := ax_call_det d _ _ _ _ ho
      obtain ⟨hc, hM⟩ := IH a g3 _ h r1 h1 (ex _ ⟨rfl, rfl⟩)
      obtain ⟨xs, x1, x2, x3⟩ := ax_pop_spec b [] st _ st' hp
      rw [List.append_nil] at x3
      have x4 : xs = (.inr (.inr (some (t, o))) :: as : List AV).reverse := by rw [x3, List.reverse_reverse]
      have x5 : st = as.reverse ++ .inr (.inr (some (t, o))) :: st' := by rw [x2, x4, List.reverse_cons, List.append_assoc]; rfl
      have hnp : as.length = (ax_mpj a).2.2.2.2.2 := by
        have hl := congrArg List.length x3
        have g6 : b = (ax_mpj a).2.2.2.2.2 + 1 := by rw [g5, hst0]; rfl
        rw [List.length_reverse, x1, g6] at hl
        simpa using hl
      have hcn := G.2.1
      have hn1 : (ax_mpj a).2.1 ≠ 1 := by rw [hst0]; decide
      refine ⟨rfl, ⟨Nat.le_trans hc.1 G.2.1.1, Nat.le_trans hc.2.1 G.2.1.2⟩, fun ρ H locs ls S => ?_⟩
      have S5 := S.2.2.2.2.1
      have sal : (∀ v ∈ (.inr (.inr (some (t, o))) :: as : List AV), ax_alive h v) ∧ ∀ v ∈ st', ax_alive h v := by
        refine ⟨fun v hv => S5 v ?_, fun v hv => S5 v ?_⟩
        · show v ∈ st
          rw [x5]
          rcases List.mem_cons.mp hv with rfl | hv
          · exact List.mem_append_right _ List.mem_cons_self
          · exact List.mem_append_left _ (List.mem_reverse.mpr hv)
        · show v ∈ st
          rw [x5]
          exact List.mem_append_right _ (List.mem_cons_of_mem _ hv)
      refine ax_wcall (as := as) (a := (Value.ref (ρ t o) :: as.map (ax_cv ρ)).toArray) G S sal.2 hc ?_
      have hPc : ∀ U : State, U.heap = H → s.WarmedH U.vm → ax_Pc D dA Hb h0 ro (.inr (.inr (some (t, o))) :: as) h ρ (Value.ref (ρ t o) :: as.map (ax_cv ρ)).toArray U := fun U hU hW => ⟨rfl, by rw [hU]; exact S.1, henv.warm hW⟩
      have hstk : (st.map (ax_cv ρ)) = (as.map (ax_cv ρ)).reverse ++ .ref (ρ t o) :: st'.map (ax_cv ρ) := by rw [x5, List.map_append, List.map_reverse]; rfl
      have hW8 : 2 * (F0 mM pc ls (st.map (ax_cv ρ))).monitorRoom + ((st'.map (ax_cv ρ)).map fun v => v.category).sum ≤ 8 := by rw [ax_sum_w]; show 2 * 0 + _ ≤ 8; omega
      have hroom : (ax_rm d (h1.2.2.2.2.1 - h.2.2.2.2.1) (h1.2.2.2.2.2 - h.2.2.2.2.2)).frames + 1 ≤ R.frames ∧ 8 + (ax_mL a + 11) + (ax_rm d (h1.2.2.2.2.1 - h.2.2.2.2.1) (h1.2.2.2.2.2 - h.2.2.2.2.2)).locals ≤ R.locals := ⟨hrm.1, by show 8 + (ax_mL a + 11) + 40 * d ≤ R.locals; have := hrm.2.1; omega⟩
      have hcells : h.2.2.2.2.1 - hS.2.2.2.2.1 + (h1.2.2.2.2.1 - h.2.2.2.2.1) ≤ R.cells ∧ h.2.2.2.2.2 - hS.2.2.2.2.2 + (h1.2.2.2.2.2 - h.2.2.2.2.2) ≤ R.slots := by
        have := hrm.2.2.1; have := hrm.2.2.2; have := hc.1; have := hc.2.1; have := S.2.2.2.2.2.2.2.1; have := S.2.2.2.2.2.2.2.2
        constructor <;> omega
      have hlt := (sal.1 _ List.mem_cons_self) t o rfl
      have hrec : ∃ cellB : Cell, H[ρ t o]? = some cellB ∧ cellB.vm.isStatics = false ∧ s.vm.findClass (ax_y a).cls = some cellB.cls := by
        rw [m3]
        have hoc2 := hoc.2
        unfold ax_oc at hoc2
        rw [Bool.and_eq_true, Bool.or_eq_true] at hoc2
        obtain ⟨hk, hcc⟩ := hoc2
        have hcc := Nat.eq_of_beq_eq_true hcc
        rw [← hcc]
        rcases hk with hk | hk
        · have hk := Nat.eq_of_beq_eq_true hk
          obtain ⟨cell, q1, q2, q3, -⟩ := (S.1.1 t o (by unfold ax_own; omega) hlt).1.1 hk
          exact ⟨cell, q1, by rw [q3]; rfl, by rw [q2]; exact (henv.1.1 _ _ (ax_cls_get (ax_sk0_lt hk))).2.1⟩
        · obtain ⟨rfl, h13⟩ := ax_sk3 (Nat.eq_of_beq_eq_true hk)
          rw [h13]
          obtain ⟨-, -, f3, -⟩ := S.1.2.2.2.2.1 x_str ax_no_str
          rw [f3] at hlt
          have kept : ∀ q : Nat, q < Hb.size → ¬ ax_A Hb q → H[q]? = Hb[q]? := fun q hq _ => S.1.2.2.2.1.2 q hq
          obtain ⟨cell, q1, q2, q3, -⟩ := ((henv.2.2.2.1 o hlt).1).kept kept
          rw [← S.1.2.2.2.2.2 x_str o ax_no_str] at q1
          exact ⟨cell, q1, q2, q3⟩
      rw [Bool.or_eq_true] at hkd
      rcases hkd with hkd | hkd
      · have hkd := Nat.eq_of_beq_eq_true hkd
        have hd : decode (ax_bc m) pc = .ok (.invokevirtual (ax_ml n.toNatClampNeg).2.1, 3) := by
          have hd := hd
          unfold ax_enc at hd
          dsimp only at hd
          rw [hkd] at hd
          exact hd
        have hnm2 : (ax_y a).name ≠ "<init>" := l4 (by rw [hkd]; decide)
        exact va_runV (C := (ax_y a).cls) ⟨hx, hb, hml, hown, hts⟩ (hM ρ hwa sal.1) ⟨callB_of _ hts (ax_good_ws g3) rfl rfl rfl (hts _ m1) (hts _ (l1 (l5 hkd))) m2 hroom, hts _ (m7 hn1), hts _ (m8 hn1 hnm2)⟩ ⟨ax_blind, hrec, hPc⟩ rfl (by rw [List.length_map]; exact hnp) S.2.2.2.2.2.1.1 hstk hW8 hd hcells
      · have hkd := Nat.eq_of_beq_eq_true hkd
        have hd : decode (ax_bc m) pc = .ok (.invokespecial (ax_ml n.toNatClampNeg).2.1, 3) := by
          have hd := hd
          unfold ax_enc at hd
          dsimp only at hd
          rw [hkd] at hd
          exact hd
        have hret : ax_rt a = none := ax_init_rt a g3 (l3 hkd)
        have hM2 := hM ρ hwa sal.1
        unfold ax_ws at hM2
        rw [hret] at hM2
        have hgw := ax_good_ws g3
        unfold ax_ws at hgw
        rw [hret] at hgw
        by_cases hne : (ax_ml n.toNatClampNeg).2.2.2.2.1 = 0
        · exact va_runI ⟨hx, hb, hml, hown, hts⟩ hM2 ⟨callB_of _ hts hgw rfl rfl rfl (hts _ m1) (hts _ (l1 hne)) m2 hroom, l3 hkd, hts _ (m7 hn1)⟩ ⟨ax_blind, hPc⟩ rfl (by rw [List.length_map]; exact hnp) S.2.2.2.2.2.1.1 hstk hW8 hd hcells
        · exact va_runIN ⟨hx, hb, hml, hown, hts⟩ hM2 ⟨va_cnB _ hts hgw rfl rfl rfl (henv.2.1 _ (l2 hne)) (hts _ m1) m2 hroom, l3 hkd, hts _ (m7 hn1)⟩ ⟨ax_blind, hPc⟩ rfl (by rw [List.length_map]; exact hnp) S.2.2.2.2.2.1.1 hstk hW8 hd hcells
end SND
