section SND
variable {p : Program} {l : Launch} {e : Env} {R : Room} {s : State} {mM : MethodId} {args : Array Value} {below : List Frame} {meth : Method} {c : Code} {QF : State → Prop} {D : va_G} {dA : Nat → ClassId} {Hb : Heap} {h0 hF hS : AH} {ro ρ0 : Nat → Nat → Nat} {d m : Nat} {Q0 : Option AV → AH → Prop}
theorem ax_step_ok (X : ax_cx p l e R s mM args below meth c D dA Hb h0 ro d m hF hS) (IH : ax_mt l D dA Hb h0 ro d) {r : Option AV} (HR : ax_hr p l e R s mM args below meth c QF D dA Hb h0 ro ρ0 hF hS m r) {pc : Nat} {L : AL} {st : List AV} {h : AH} (ho : ax_op (ax_call d) (ax_st (ax_ft m pc) m L st h) (ax_gd p l e R s mM args below meth c QF D dA Hb h0 ro ρ0 hF hS m) (fun r' h' => r' = r ∧ h' = hF)) : ax_gd p l e R s mM args below meth c QF D dA Hb h0 ro ρ0 hF hS m (m, pc, L, st) h := by
  by_cases h99 : (ax_ft m pc).1 = 99
  · generalize ax_ft m pc = e at ho h99
    obtain ⟨op, nx, a, b, n⟩ := e
    have h99 : op = 99 := h99
    subst h99
    exact ho.elim
  · obtain ⟨hd, hs⟩ := ax_ft_ok X.2.2.2.2.2.2.2.2.2 h99
    generalize ax_ft m pc = e at ho hd hs
    obtain ⟨op, nx, a, b, n⟩ := e
    match op, hd, hs, ho with
    | 0, hd, hs, ho => exact ax_s0 X hd hs ho
    | 1, hd, hs, ho => exact ax_s1 X hd hs ho
    | 2, hd, hs, ho => exact ax_s2 X hd hs ho
    | 3, hd, hs, ho => exact ax_s3 X hd hs ho
    | 4, hd, hs, ho => exact ax_s4 X hd hs ho
    | 5, hd, hs, ho => exact ax_s5 X hd hs ho
    | 6, hd, hs, ho => exact ax_s6 X hd hs ho
    | 7, hd, hs, ho => exact ax_s7 X hd hs ho
    | 8, hd, hs, ho => exact ax_s8 X hd hs ho
    | 9, hd, hs, ho => exact ax_s9 X hd hs ho
    | 10, hd, hs, ho => exact ax_s10 X hd hs ho
    | 11, hd, hs, ho => exact ax_s11 X hd hs ho
    | 12, hd, hs, ho => exact ax_s12 X hd hs ho
    | 13, hd, hs, ho => exact ax_s13 X hd hs ho
    | 14, hd, hs, ho => exact ax_s14 X hd hs ho
    | 15, hd, hs, ho => exact ax_s15 X hd hs ho
    | 16, hd, hs, ho => exact ax_s16 X hd hs ho
    | 17, hd, hs, ho => exact ax_s17 X hd hs ho
    | 18, hd, hs, ho => exact ax_s18 X HR hd hs ho
    | 19, hd, hs, ho => exact ax_s19 X HR hd hs ho
    | 20, hd, hs, ho => exact ax_s20 X HR hd hs ho
    | 21, hd, hs, ho => exact ax_s21 X HR hd hs ho
    | 22, hd, hs, ho => exact ax_s22 X hd hs ho
    | 23, hd, hs, ho => exact ax_s23 X hd hs ho
    | 24, hd, hs, ho => exact ax_s24 X hd hs ho
    | 25, hd, hs, ho => exact ax_s25 X IH hd hs ho
    | 26, hd, hs, ho => exact ax_s26 X hd hs ho
    | 27, hd, hs, ho => exact ax_s27 X hd hs ho
    | 28, hd, hs, ho => exact ax_s28 X hd hs ho
    | 29, hd, hs, ho => exact ax_s29 X hd hs ho
    | 30, hd, hs, ho => exact ax_s30 X hd hs ho
    | 31, hd, hs, ho => exact ax_s31 X hd hs ho
    | 32, hd, hs, ho => exact ax_s32 X hd hs ho
    | 33, hd, hs, ho => exact ax_s33 X hd hs ho
    | 34, hd, hs, ho => exact ax_s34 X hd hs ho
    | 35, hd, hs, ho => exact ax_s35 X hd hs ho
    | 36, hd, hs, ho => exact ax_s36 X hd hs ho
    | 37, hd, hs, ho => exact ax_s37 X hd hs ho
    | 38, hd, hs, ho => exact ax_s38 X hd hs ho
    | 39, hd, hs, ho => exact ax_s39 X hd hs ho
    | 40, hd, hs, ho => exact ax_s40 X hd hs ho
    | 41, hd, hs, ho => exact ax_s41 X hd hs ho
    | 42, hd, hs, ho => exact ax_s42 X hd hs ho
    | 43, hd, hs, ho => exact ax_s43 X hd hs ho
    | 44, hd, hs, ho => exact ax_s44 X hd hs ho
    | 45, hd, hs, ho => exact ax_s45 X hd hs ho
    | 46, hd, hs, ho => exact ax_s46 X hd hs ho
    | 47, hd, hs, ho => exact ax_s47 X hd hs ho
    | 48, hd, hs, ho => exact ax_s48 X hd hs ho
    | 49, hd, hs, ho => exact ax_s49 X hd hs ho
    | 50, hd, hs, ho => exact ax_s50 X hd hs ho
    | 51, hd, hs, ho => exact ax_s51 X hd hs ho
    | 52, hd, hs, ho => exact ax_s52 X IH hd hs ho
    | 53, hd, hs, ho => exact ax_s53 X hd hs ho
    | 54, hd, hs, ho => exact ax_s54 X hd hs ho
    | 55, hd, hs, ho => exact ax_s55 X hd hs ho
    | 56, hd, hs, ho => exact ax_s56 X hd hs ho
    | 57, hd, hs, ho => exact ax_s57 X hd hs ho
    | 58, hd, hs, ho => exact ax_s58 X hd hs ho
    | k + 59, hd, hs, ho => exact ho.elim
theorem ax_run_ok (X : ax_cx p l e R s mM args below meth c D dA Hb h0 ro d m hF hS) (IH : ax_mt l D dA Hb h0 ro d) {r : Option AV} (HR : ax_hr p l e R s mM args below meth c QF D dA Hb h0 ro ρ0 hF hS m r) : ∀ (n : Nat) (f : AF) (h : AH), f.1 = m → ax_run (ax_call d) n f h (fun r' h' => r' = r ∧ h' = hF) → ax_gd p l e R s mM args below meth c QF D dA Hb h0 ro ρ0 hF hS m f h
  | 0, _, _, _, h1 => h1.elim
  | n + 1, (m', pc, L, st), h, hf, h1 => by
    have hf : m = m' := hf.symm
    subst hf
    exact ax_step_ok X IH HR (ax_op_mono (ax_call_mono d) (fun f' h' q => ax_run_ok X IH HR n f' h' q.1 q.2) (fun _ _ q => q) (ax_op_m (ax_call_mono d) (ax_st_m (ax_ft m pc)) h1))
end SND
theorem ax_le_args {ρ : Nat → Nat → Nat} : ∀ (as : List AV) (n i k : Nat) (v : AV), ax_lget (ax_le as n) i = some v → (k + i, ax_cv ρ v) ∈ lv_args k (as.map (ax_cv ρ)) ∧ v ∈ as
  | [], n, i, k, v, h => by
    have : ∀ (n i : Nat), ax_lget (List.replicate n none) i = none := by
      intro n
      induction n with
      | zero => intro i; rfl
      | succ n ih => intro i; cases i with
        | zero => rfl
        | succ i => exact ih i
    rw [show ax_le [] n = List.replicate n none from rfl, this] at h
    cases h
  | .inr (.inl x) :: as, n, 0, k, v, h => by
    cases h
    exact ⟨List.mem_cons_self, List.mem_cons_self⟩
  | .inr (.inl x) :: as, n, 1, k, v, h => by cases h
  | .inr (.inl x) :: as, n, i + 2, k, v, h => by
    obtain ⟨h1, h2⟩ := ax_le_args as (n - 2) i (k + 2) v h
    refine ⟨List.mem_cons_of_mem _ ?_, List.mem_cons_of_mem _ h2⟩
    rw [show k + (i + 2) = k + 2 + i by omega]
    exact h1
  | .inl x :: as, n, 0, k, v, h => by
    cases h
    exact ⟨List.mem_cons_self, List.mem_cons_self⟩
  | .inl x :: as, n, i + 1, k, v, h => by
    obtain ⟨h1, h2⟩ := ax_le_args as (n - 1) i (k + 1) v h
    refine ⟨List.mem_cons_of_mem _ ?_, List.mem_cons_of_mem _ h2⟩
    rw [show k + (i + 1) = k + 1 + i by omega]
    exact h1
  | .inr (.inr r) :: as, n, 0, k, v, h => by
    cases h
    exact ⟨List.mem_cons_self, List.mem_cons_self⟩
  | .inr (.inr r) :: as, n, i + 1, k, v, h => by
    obtain ⟨h1, h2⟩ := ax_le_args as (n - 1) i (k + 1) v h
    refine ⟨List.mem_cons_of_mem _ ?_, List.mem_cons_of_mem _ h2⟩
    rw [show k + (i + 1) = k + 1 + i by omega]
    have hc : ¬ (ax_rv ρ r).category = 2 := by
      have := ax_cv_cat (ρ := ρ) (.inr (.inr r))
      intro q
      have q2 : (ax_cv ρ (.inr (.inr r))).category = 2 := q
      rw [this] at q2
      exact absurd q2 (by show ¬ (1 : Nat) = 2; decide)
    show _ ∈ lv_args (if (ax_rv ρ r).category = 2 then k + 2 else k + 1) (as.map (ax_cv ρ))
    rw [if_neg hc]
    exact h1
theorem ax_sl_len (ρ : Nat → Nat → Nat) : ∀ as : List AV, (lg_sl (as.map (ax_cv ρ))).length = ax_w as
  | [] => rfl
  | v :: as => by
    have e : lg_sl ((v :: as).map (ax_cv ρ)) = (if (ax_cv ρ v).category = 2 then [.val (ax_cv ρ v), .second] else [.val (ax_cv ρ v)]) ++ lg_sl (as.map (ax_cv ρ)) := rfl
    rw [e, List.length_append, ax_sl_len ρ as, ax_cv_cat]
    show _ = ax_cat v + ax_w as
    congr 1
    match v with
    | .inl x => rfl
    | .inr (.inl x) => rfl
    | .inr (.inr r) => rfl
set_option maxHeartbeats 1000000 in
/-- every call that ends is met -/
theorem ax_mt_all {l : Launch} {D : va_G} {dA : Nat → ClassId} {Hb : Heap} {h0 : AH} {ro : Nat → Nat → Nat} : ∀ d : Nat, ax_mt l D dA Hb h0 ro d
  | 0 => fun y hy as h r h' h1 => h1.elim
  | d + 1 => fun y hy as h r h' h1 => by
    refine ⟨ax_call_cnt (d + 1) y as h r h' h1, fun ρ hwa hal => ?_⟩
    obtain ⟨n, h1⟩ := h1
    obtain ⟨m1, m2, m3, m4, m5, -⟩ := ax_mp_use hy
    refine Met.ofW (cc := ax_bc y) (maxL := ax_mL y) (ret := ax_rt y) m4 rfl ?_
    intro p e s mM args below meth c s₁ B hml hv
    obtain ⟨rfl, hwd, henv⟩ := hv
    have hts := atoms_spec (ws := ax_ws y) B.pre
    have hown : s.vm.findClass (ax_y y).cls = some mM.cls := findClass_of_methodNamed B.named
    have hlocks := B.notSynchronized
    have hx := B.exec
    have hb := B.bytes
    have X : ax_cx p l e (headSpec (ax_ws y) (ax_rm (d + 1) (h'.2.2.2.2.1 - h.2.2.2.2.1) (h'.2.2.2.2.2 - h.2.2.2.2.2))).room s mM (as.map (ax_cv ρ)).toArray below meth c D dA Hb h0 ro d y h' h := ⟨hx, hb, hml, by rw [← m3]; exact hown, fun w hw => hts w (List.mem_cons_of_mem _ hw), henv, (name_of_methodNamed B.named B.method).1, hwd.2.2.2.1.1, ⟨Nat.le_refl _, Nat.le_refl _, Nat.le_refl _, Nat.le_refl _⟩, by omega⟩
    have HR : ax_hr p l e (headSpec (ax_ws y) (ax_rm (d + 1) (h'.2.2.2.2.1 - h.2.2.2.2.1) (h'.2.2.2.2.2 - h.2.2.2.2.2))).room s mM (as.map (ax_cv ρ)).toArray below meth c (MQ below (ax_Qc D dA Hb h0 ro r h h' ρ) (as.map (ax_cv ρ)).toArray s (h'.2.2.2.2.1 - h.2.2.2.2.1) (h'.2.2.2.2.2 - h.2.2.2.2.2) (fun q => Hb.size ≤ q)) D dA Hb h0 ro ρ h' h y r := by
      intro ρ' H locs ls pc i stv hw hρ hlo hdec hrk hral
      rcases hrk with ⟨rfl, x, ty, e1, e2, e3, e4⟩ | ⟨rfl, x, e1, e2, e3⟩ | ⟨rfl, q, ty, e1, e2, e3, e4⟩ | ⟨rfl, e1, e2, e3⟩
      · subst e2
        exact W.zret hx hb (B.returns.trans e3) e4 (fun t ht hW => ⟨ρ', hρ, by rw [e1]; rfl, by rw [ht]; exact hw, hral⟩) hlo hdec hlocks
      · subst e2
        exact W.lret hx hb (B.returns.trans e3) (fun t ht hW => ⟨ρ', hρ, by rw [e1]; rfl, by rw [ht]; exact hw, hral⟩) hlo hdec hlocks
      · subst e2
        exact W.aret hx hb (B.returns.trans e3) e4 (ax_rv_cases q) (fun t ht hW => ⟨ρ', hρ, by rw [e1]; rfl, by rw [ht]; exact hw, hral⟩) hlo hdec hlocks
      · subst e2
        exact W.vret hx hb (B.returns.trans e3) (fun t ht hW => ⟨ρ', hρ, by rw [e1]; rfl, by rw [ht]; exact hw, hral⟩) hlo hdec hlocks
    have G := ax_run_ok X (ax_mt_all d) HR n (ax_entry y as) h rfl h1
    have hl := lv_entry (as.map (ax_cv ρ)) (n := ax_mL y) (by rw [ax_sl_len]; exact hwa)
    rw [lg_entry_eq]
    generalize (lg_sl (as.map (ax_cv ρ)) ++ List.replicate (ax_mL y - (lg_sl (as.map (ax_cv ρ))).length) Slot.unset).toArray = ls at hl ⊢
    have k := G.2.2 ρ s.heap [] ls ⟨hwd, fun _ _ _ => rfl, fun _ => Nat.le_refl _, fun i v hi => hal v (ax_le_args (ρ := ρ) as _ i 0 v hi).2, (fun v hv => by cases hv), ⟨hl.1, hl.2.1, fun i v hi => by have := hl.2.2 _ (ax_le_args (ρ := ρ) as _ i 0 v hi).1; rwa [Nat.zero_add] at this⟩, (fun q hq => by cases hq), Nat.le_refl _, Nat.le_refl _⟩
    rw [Nat.sub_self, Nat.sub_self] at k
    exact k
