/-! THE CLAIM OUT OF ONE WALK OF THE LAW'S BODY. Your part is whole_start (and what it stands on); all else here is the same for every law, but numbers. -/
def R_law : String := "SymmetryTaxLaw"
def lw_P (b : Addr) (xs : List Int32) (args : Array Value) (s : State) : Prop := args = #[.ref b] ∧ s.IntsAt b xs ∧ xs.length ≤ 3072 ∧ (Jvm.Cond.and given_1 narrow_1).before args s = true
def lw_Q (_ : Array Value) (s : State) (o : Outcome) (t : State) : Prop := o = .returned (some (.int 1)) ∧ Framed s o t [] 1200000 5502250
def lw_Z (below : List Frame) (a : Array Value) (s : State) : State → Prop := fun t => ∃ o, t.status = .running ∧ Ended t below o ∧ lw_Q a s o t
/-- the law's own end, with 1 on the stack, nothing written that was there before, its room as the claim has it -/
theorem lw_ret {p : Program} {l : Launch} {e : Env} {s : State} {m : MethodId} {below : List Frame} {meth : Method} {c : Code} {b : Nat} (hx : p.tables.exec = Jvm.exec) (hb : c.code = code) (hr : meth.sig.returnType = ret) (hlocks : meth.locks = false) {pc : Nat} {H : Heap} {ls : Array Slot} (hdg : decode code pc = .ok (.ireturn, 1)) : W p l e room_1 s m #[Value.ref b] below meth c H [] 1200000 5502250 (lw_Z below #[Value.ref b] s) (F0 m pc ls [.int 1]) := by
  intro T hT X
  obtain ⟨fs, hret, hrun, hended, hW, hframe⟩ := X.leave (v := some (.int 1)) (hlocks := hlocks) (fun h => by rw [hr] at h; cases h)
  have hmeth' : T.vm.method? m = some meth := X.method'
  refine ⟨T.setFrames fs, ?_, .returned (some (.int 1)), hrun, hended, rfl, ⟨_, rfl⟩, hW, hframe⟩
  jvm_step X.here [X.here.top, hx, hb, hdg, hmeth', hr, ret, narrow_b1]
  (try refine ⟨rfl, ?_⟩); (try refine ⟨rfl, ?_⟩)
  first | (intro acts; rw [hret _ acts rfl rfl rfl]) | rw [hret _ _ rfl rfl rfl]
  exact Steps.refl _
/-- what holds at the law's entry: the machine, the code, the tables' words (any of lw_tbl by 'hts w (by decide +kernel)'), the script of L ints xs at the cell b, what the Statement gives of the start (any of its parts by flat_of_before) -/
def lw_At (p : Program) (s : State) (m : MethodId) (meth : Method) (c : Code) (b L : Nat) (xs : Nat → Int32) : Prop :=
  p.tables.exec = Jvm.exec ∧ c.code = code ∧ meth.sig.returnType = ret ∧ c.maxLocals = 4 ∧ s.vm.findClass R_law = some m.cls ∧ (∀ w ∈ lw_tbl, w.before #[Value.ref b] s = true) ∧ va_X b L xs s s.heap ∧ b < s.heap.size ∧ meth.locks = false ∧ meth.name = "law" ∧ (Jvm.Cond.and given_1 narrow_1).before #[Value.ref b] s = true
theorem wl_fx : ax_bc 255 = code ∧ ax_mL 255 = 4 ∧ ax_cn (ax_mc 255) = R_law ∧ (ax_y 255).name = "law" ∧ ax_rt 255 = ret := ⟨rfl, rfl, rfl, rfl, rfl⟩
set_option maxHeartbeats 1000000 in
theorem wl_start {p : Program} {e : Env} {s : State} {m : MethodId} {below : List Frame} {meth : Method} {c : Code} (l : Launch) {b L : Nat} {xs : Nat → Int32} (hL : L ≤ 3072) (C0 : lw_At p s m meth c b L xs) {d : Nat} (hd : d + 1 ≤ 2048)
    (hrun : ∀ fo : AR, (fo = none ∨ fo = some (x_fob, 0)) → Runs d (ax_entry m_L_law [.inr (.inr (some (x_script, 0)))]) (wl_h0 L xs fo) (fun r h => r = some (.inl 1) ∧ h.2.2.2.2.1 ≤ 1200000 ∧ h.2.2.2.2.2 ≤ 5502250)) :
    W p l e room_1 s m #[Value.ref b] below meth c s.heap [] 0 0 (lw_Z below #[Value.ref b] s) (entryFrame m ([Value.ref b] : List Value).toArray 4) := by
  obtain ⟨hx, hc, hr, hml, hown, hts, hX, hbl, hlocks, hnm, hg⟩ := C0
  obtain ⟨D, dA, ro, fo, hfo, hro, henv⟩ := wl_env hL hts hX hbl hg
  have h1 := hrun fo hfo
  rw [Runs_def] at h1
  obtain ⟨n, h1⟩ := h1
  obtain ⟨r, hF, ⟨hr1, hcl, hsl⟩, h2⟩ := ax_run_det (ax_call_det d) n _ _ _ h1
  subst hr1
  have h3 := h2 (fun r' h' => r' = some (.inl 1) ∧ h' = hF) ⟨rfl, rfl⟩
  have X : ax_cx p l e room_1 s m #[Value.ref b] below meth c D dA s.heap (wl_h0 L xs fo) ro d 255 hF (wl_h0 L xs fo) := by
    refine ⟨hx, hc, hml, hown, fun w hw => hts w (ax_all_in hw), henv, hnm, Nat.le_refl _, ⟨hd, ?_, ?_, ?_⟩, by decide⟩
    · show 40 * (d + 1) ≤ 84000
      omega
    · show hF.2.2.2.2.1 - 0 ≤ 1200000
      exact hcl
    · show hF.2.2.2.2.2 - 0 ≤ 5502250
      exact hsl
  have HR : ax_hr p l e room_1 s m #[Value.ref b] below meth c (lw_Z below #[Value.ref b] s) D dA s.heap (wl_h0 L xs fo) ro ro hF (wl_h0 L xs fo) 255 (some (.inl 1)) := by
    intro ρ' H locs ls pc i stv hw hρ hlo hdec hrk hral
    rcases hrk with ⟨rfl, x, ty, e1, e2, e3, e4⟩ | ⟨rfl, x, e1, e2, e3⟩ | ⟨rfl, q, ty, e1, e2, e3, e4⟩ | ⟨rfl, e1, e2, e3⟩
    · cases e1
      subst e2
      refine va_forget hlo (W.widen (k := 1200000) (n := 5502250) ?_ ?_ (lw_ret hx hc hr hlocks hdec))
      · show hF.2.2.2.2.1 - 0 ≤ 1200000
        exact hcl
      · show hF.2.2.2.2.2 - 0 ≤ 5502250
        exact hsl
    · cases e1
    · cases e1
    · cases e1
  have G := ax_run_ok X (ax_mt_all d) HR n (ax_entry m_L_law [.inr (.inr (some (x_script, 0)))]) (wl_h0 L xs fo) rfl h3
  have hl := lv_entry ([Value.ref b] : List Value) (n := 4) (Nat.le_of_ble_eq_true rfl)
  rw [lg_entry_eq]
  generalize (lg_sl ([Value.ref b] : List Value) ++ List.replicate (4 - (lg_sl ([Value.ref b] : List Value)).length) Slot.unset).toArray = ls at hl ⊢
  have hca : ([.inr (.inr (some (x_script, 0)))] : List AV).map (ax_cv ro) = [Value.ref b] := by
    show [Value.ref (ro x_script 0)] = _
    rw [hro]
  have k := G.2.2 ro s.heap [] ls ⟨wl_wd hfo, fun _ _ _ => rfl, fun _ => Nat.le_refl _, fun i v hi => ?_, (fun v hv => by cases hv), ⟨hl.1, hl.2.1, fun i v hi => ?_⟩, (fun q hq => by cases hq), Nat.le_refl _, Nat.le_refl _⟩
  · exact k
  · have h4 := (ax_le_args (ρ := ro) [.inr (.inr (some (x_script, 0)))] _ i 0 v hi).2
    rw [List.mem_singleton] at h4
    subst h4
    exact ax_al_r (show 0 < wl_gn x_script by decide)
  · have h4 := (ax_le_args (ρ := ro) [.inr (.inr (some (x_script, 0)))] _ i 0 v hi).1
    rw [hca] at h4
    have := hl.2.2 _ h4
    rwa [Nat.zero_add] at this
