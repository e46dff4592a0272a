
theorem ax_nn {z : Int32} (hz : ¬ z < 0) : z.toInt = (z.toNatClampNeg : Int) := by
  have hz0 : (0 : Int) ≤ z.toInt := by
    have := Int32.not_lt.mp hz
    simpa using Int32.le_iff_toInt_le.mp this
  show z.toInt = ((z.toInt.toNat : Nat) : Int)
  omega
theorem ax_ev_prim {ρ : Nat → Nat → Nat} {h : AH} {t o c : Nat} (hc : Nat.ble 3 c = false) : ax_eval ρ h t o c = fun j => Value.int (h.1 t o j) := by
  funext j
  unfold ax_eval
  rw [ax_nb8 hc, hc]
  rfl
theorem ax_t2_prim {t : Nat} (h : t ≤ 2) : refKind (ax_t2 t) = false ∧ Nat.ble 3 t = false ∧ (∀ x : Int32, (t = 0 ∨ x = 0 ∨ x = 1) → fits (ax_t2 t) (.int x) = true) := by
  match t, h with
  | 0, _ => exact ⟨rfl, rfl, fun x _ => rfl⟩
  | 1, _ => exact ⟨rfl, rfl, fun x hx => by rcases hx with e | e | e <;> first | exact absurd e (by decide) | (rw [e]; decide)⟩
  | 2, _ => exact ⟨rfl, rfl, fun x hx => by rcases hx with e | e | e <;> first | exact absurd e (by decide) | (rw [e]; decide)⟩
section SND
variable {p : Program} {l : Launch} {e : Env} {R : Room} {s : State} {mM : MethodId} {args : Array Value} {below : List Frame} {meth : Method} {c : Code} {QF : State → Prop} {D : va_G} {dA : Nat → ClassId} {Hb : Heap} {h0 hF hS : AH} {ro ρ0 : Nat → Nat → Nat} {d m : Nat} {Q0 : Option AV → AH → Prop}
theorem ax_s43 (X : ax_cx p l e R s mM args below meth c D dA Hb h0 ro d m hF hS) {nx a b : Nat} {n : Int32} {pc : Nat} {L : AL} {st : List AV} {h : AH} (hd : decode (ax_bc m) pc = .ok (ax_enc pc (43, nx, a, b, n), nx - pc)) (hs : ax_side m pc (43, nx, a, b, n) = true) (ho : ax_op (ax_call d) (ax_st (43, nx, a, b, n) m L st h) (ax_gd p l e R s mM args below meth c QF D dA Hb h0 ro ρ0 hF hS m) Q0) : ax_gd p l e R s mM args below meth c QF D dA Hb h0 ro ρ0 hF hS m (m, pc, L, st) h := by
  obtain ⟨hx, hb, hml, hown, hts, henv, hnm, hsb, hrm, hm⟩ := X
  change ax_op (ax_call d) (st_acp m nx L st h) (ax_gd p l e R s mM args below meth c QF D dA Hb h0 ro ρ0 hF hS m) Q0 at ho
  simp only [ax_side, Bool.and_eq_true, decide_eq_true_eq] at hs
  obtain ⟨hn1, hlk⟩ := hs
  obtain rfl := ax_nxt hn1
  rw [Nat.add_sub_cancel_left] at hd
  match st, ho with
  | .inl n0 :: .inl dp :: .inr (.inr (some (t, y))) :: .inl sp :: .inr (.inr (some (u, x))) :: st, ho =>
    unfold st_acp at ho
    dsimp only at ho
    cases hoc : (Nat.ble (ax_w st) 8 && ax_ar u && Nat.beq (ax_sk t).1 1 && Nat.beq (ax_sk u).2 (ax_sk t).2 && Nat.ble (ax_sk u).2 2) with
    | false => rw [hoc] at ho; exact ho.elim
    | true =>
      rw [hoc] at ho
      simp only [Bool.and_eq_true] at hoc
      obtain ⟨⟨⟨⟨c1, c2⟩, c3⟩, c4⟩, c5⟩ := hoc
      have hw8 := Nat.le_of_ble_eq_true c1
      have hk1 := Nat.eq_of_beq_eq_true c3
      have hty := Nat.eq_of_beq_eq_true c4
      obtain ⟨p1, p2, p3⟩ := ax_t2_prim (Nat.le_of_ble_eq_true c5)
      obtain ⟨⟨⟨b1, b2, b3, b4, b5⟩, b6⟩, ho⟩ := ho
      have ho : ax_gd p l e R s mM args below meth c QF D dA Hb h0 ro ρ0 hF hS m (m, pc + 3, L, st) (ax_cI h.1 u x sp.toNatClampNeg t y dp.toNatClampNeg n0.toNatClampNeg, h.2) := ho
      refine ⟨rfl, ho.2.1, fun ρ H locs ls S => ?_⟩
      obtain ⟨S1, S2, S3, S4, S5, S6, S7, S8⟩ := S
      obtain ⟨-, S5⟩ := ax_fm1 S5
      obtain ⟨-, S5⟩ := ax_fm1 S5
      obtain ⟨ht, S5⟩ := ax_fm1 S5
      obtain ⟨-, S5⟩ := ax_fm1 S5
      obtain ⟨hu, S5⟩ := ax_fm1 S5
      have ht := ht t y rfl
      have hu := hu u x rfl
      obtain ⟨cs, e1, e2, e3, -, e5, e6⟩ := ax_warr henv S1 c2 hu
      have how : ax_own t := by unfold ax_own; omega
      have f1 := (S1.1 t y how ht).1.2 hk1
      have hba := (S1.1 t y how ht).2
      rw [← hty] at f1
      rw [ax_ev_prim p2] at f1
      have f2 := (henv.1.2 (ax_sk u).2 _ (ax_tys_get (by have := Nat.le_of_ble_eq_true c5; omega))).1 (ax_len h t y) (fun j => Value.int (h.1 t y j))
      have e6 : ∀ j, j < ax_len h u x → cs.slots[j]? = some (Value.int (h.1 u x j)) := fun j hj => by rw [e6 j hj, ax_ev_prim p2]
      intro T hT X
      obtain ⟨g1, k0, hk0, cm0, hkk0⟩ := e2
      obtain ⟨-, k1, hkk, cm1, hkk1⟩ := f2
      have slen : (arrV (dA (ax_sk u).2) (ax_len h t y) (fun j => Value.int (h.1 t y j))).slots.size = ax_len h t y := arrV_size _ _ _
      obtain ⟨vm', X', step⟩ := X.arraycopy hx hown (hts _ hlk) (hts _ ax_w_ac.1) (hts _ ax_w_ac.2.1) (hts _ ax_w_ac.2.2) (src := ρ u x) (dst := ρ t y) (cs := cs) (srcPos := sp) (destPos := dp) (n := n0) (by rw [hT]; exact e1) (by rw [hT]; exact f1)
        g1 (fun _ q => by cases q) e3 (fun q => by cases q) hk0 hkk hkk0 hkk1 (by simp [p1]) b1 b2 b3
        (by rw [ax_nn b1, ax_nn b3]; omega)
        (by rw [ax_nn b2, ax_nn b3, slen]; omega)
        (fun vm₁ _ i hi => by
          have e : cs.slots.getD (sp.toNatClampNeg + i) .null = .int (h.1 u x (sp.toNatClampNeg + i)) := by
            rw [Array.getD_eq_getD_getElem?, e6 _ (by omega)]
            rfl
          rw [e]
          exact ⟨p3 _ (b6.imp id (fun q => q i hi)), trivial⟩)
        (g := F0 mM pc ls (.int n0 :: .int dp :: .ref (ρ t y) :: .int sp :: .ref (ρ u x) :: st.map (ax_cv ρ))) rfl (by rw [hml]; exact S6.1) (rest := st.map (ax_cv ρ)) rfl (by rw [hb]; exact hd) (by omega) (by
          rw [ax_sum_w]
          show 2 * 0 + ax_w st + (nativeFrameWords "java/lang/System" "arraycopy" 5 + 11) ≤ R.locals
          have : nativeFrameWords "java/lang/System" "arraycopy" 5 = 7 := by decide
          omega)
      have e9 : copied cs (arrV (dA (ax_sk u).2) (ax_len h t y) (fun j => Value.int (h.1 t y j))) sp dp n0 = arrV (dA (ax_sk u).2) (ax_len h t y) (fun j => Value.int (va_cpy (h.1 u x) (h.1 t y) sp.toNatClampNeg dp.toNatClampNeg n0.toNatClampNeg j)) := va_copiedX (fun z => Value.int z) cs _ (h.1 u x) (h.1 t y) e6 b4
      rw [e9] at X' step
      have hl : ρ t y < H.size := (Array.getElem?_eq_some_iff.mp f1).1
      have hheap : ((T.setVm vm').setCell (ρ t y) (arrV (dA (ax_sk u).2) (ax_len h t y) (fun j => Value.int (va_cpy (h.1 u x) (h.1 t y) sp.toNatClampNeg dp.toNatClampNeg n0.toNatClampNeg j)))).heap = H.setIfInBounds (ρ t y) (arrV (dA (ax_sk u).2) (ax_len h t y) (fun j => Value.int (va_cpy (h.1 u x) (h.1 t y) sp.toNatClampNeg dp.toNatClampNeg n0.toNatClampNeg j))) := by rw [← hT]; rfl
      have k := ho.2.2 ρ _ (locs ++ (cs.stretch sp.toNatClampNeg n0.toNatClampNeg).zipIdx.map fun q => ⟨ρ t y, dp.toNatClampNeg + q.2⟩) ls ⟨S1.set how ht (h' := (ax_cI h.1 u x sp.toNatClampNeg t y dp.toNatClampNeg n0.toNatClampNeg, h.2)) (H' := H.setIfInBounds (ρ t y) (arrV (dA (ax_sk u).2) (ax_len h t y) (fun j => Value.int (va_cpy (h.1 u x) (h.1 t y) sp.toNatClampNeg dp.toNatClampNeg n0.toNatClampNeg j)))) rfl (fun a1 a2 a3 q => if_neg (fun z => q ⟨z.1, z.2.1⟩)) (fun _ _ _ _ => rfl) (by simp) (fun q hq => by simp [Array.getElem?_setIfInBounds, Ne.symm hq]) ⟨fun q => absurd q (by omega), fun _ => by
          rw [← hty, ax_ev_prim p2]
          have e10 : ∀ j, va_cpy (h.1 u x) (h.1 t y) sp.toNatClampNeg dp.toNatClampNeg n0.toNatClampNeg j = ax_cI h.1 u x sp.toNatClampNeg t y dp.toNatClampNeg n0.toNatClampNeg t y j := fun j => by
            unfold va_cpy ax_cI
            by_cases q : dp.toNatClampNeg ≤ j ∧ j < dp.toNatClampNeg + n0.toNatClampNeg
            · rw [if_pos q, if_pos ⟨rfl, rfl, q.1, q.2⟩]
            · rw [if_neg q, if_neg (fun z => q z.2.2)]
          simp only [e10]
          simp [Array.getElem?_setIfInBounds, hl]
          rfl⟩ (S1.2.2.1 t y ht), S2, S3, S4, S5, S6, fun q hq => by
          rcases List.mem_append.mp hq with q1 | q1
          · exact S7 q q1
          · obtain ⟨z, -, hz⟩ := List.mem_map.mp q1
            rw [← hz]
            exact hba, S8⟩
      obtain ⟨t2, a1, d1⟩ := k _ hheap X'
      exact ⟨t2, step t2 a1, d1⟩
theorem ax_s44 (X : ax_cx p l e R s mM args below meth c D dA Hb h0 ro d m hF hS) {nx a b : Nat} {n : Int32} {pc : Nat} {L : AL} {st : List AV} {h : AH} (hd : decode (ax_bc m) pc = .ok (ax_enc pc (44, nx, a, b, n), nx - pc)) (hs : ax_side m pc (44, nx, a, b, n) = true) (ho : ax_op (ax_call d) (ax_st (44, nx, a, b, n) m L st h) (ax_gd p l e R s mM args below meth c QF D dA Hb h0 ro ρ0 hF hS m) Q0) : ax_gd p l e R s mM args below meth c QF D dA Hb h0 ro ρ0 hF hS m (m, pc, L, st) h := by
  obtain ⟨hx, hb, hml, hown, hts, henv, hnm, hsb, hrm, hm⟩ := X
  change ax_op (ax_call d) (st_clo m nx a L st h) (ax_gd p l e R s mM args below meth c QF D dA Hb h0 ro ρ0 hF hS m) Q0 at ho
  simp only [ax_side, Bool.and_eq_true, decide_eq_true_eq] at hs
  obtain ⟨hn1, hlk, hsk, hsl⟩ := hs
  obtain rfl := ax_nxt hn1
  rw [Nat.add_sub_cancel_left] at hd
  match st, ho with
  | .inr (.inr (some (t, y))) :: st, ho =>
    unfold st_clo at ho
    dsimp only at ho
    cases hoc : (Nat.ble (ax_w st) 8 && ax_a1 t 0) with
    | false => rw [hoc] at ho; exact ho.elim
    | true =>
      rw [hoc] at ho
      rw [Bool.and_eq_true] at hoc
      obtain ⟨c1, c2⟩ := hoc
      have hw8 := Nat.le_of_ble_eq_true c1
      unfold ax_a1 at c2
      rw [Bool.and_eq_true] at c2
      have hk1 := Nat.eq_of_beq_eq_true c2.1
      have hz0 := Nat.eq_of_beq_eq_true c2.2
      have ho : ax_gd p l e R s mM args below meth c QF D dA Hb h0 ro ρ0 hF hS m (m, pc + 3, L, .inr (.inr (some (a, h.2.2.1 a))) :: st) (ax_cl h t y a (ax_len h t y)) := ho
      have hot : ax_own a := by unfold ax_own; rw [hsk]; simp
      have hcn : h.2.2.2.2.1 + 1 ≤ hF.2.2.2.2.1 ∧ h.2.2.2.2.2 + ax_len h t y ≤ hF.2.2.2.2.2 := ho.2.1
      refine ⟨rfl, ⟨by omega, by omega⟩, fun ρ H locs ls S => ?_⟩
      obtain ⟨S1, S2, S3, S4, S5, S6, S7, S8⟩ := S
      obtain ⟨hal, S5⟩ := ax_fm1 S5
      have hlt := hal t y rfl
      have e1 := (S1.1 t y (by unfold ax_own; omega) hlt).1.2 hk1
      rw [hz0, ax_ev_prim rfl] at e1
      have hρ : ∀ x z, z < h.2.2.1 x → ax_ext ρ a (h.2.2.1 a) H.size x z = ρ x z := fun x z h9 => ax_ext_ne (fun q => by obtain ⟨rfl, rfl⟩ := q; omega)
      have hnm : s.vm.findClass "[I" = some (dA 0) := (henv.1.2 0 _ (ax_tys_get (by decide))).2
      obtain ⟨cc0, tt0, f1, f2, f3⟩ := Cond.castable_spec (va_Nw.use (A := args) rfl (henv.2.1 _ ax_w_cs))
      cases hnm.symm.trans f1
      have hAr := (henv.1.2 0 _ (ax_tys_get (by decide))).1
      obtain ⟨-, kS, hkS, compS, hkindS⟩ := hAr 0 (fun _ => .null)
      intro T hT X
      obtain ⟨-, kA, hkA, comp, hkind⟩ := State.isArrayOf_alike X.warmed.alike (hAr 0 (fun _ => .null))
      obtain ⟨vm', X', step⟩ := X.cloneArray hx hown (hts _ hlk) (hts _ ax_w_cl.1) (hts _ ax_w_cl.2.1) (hts _ ax_w_cl.2.2.1) (hts _ ax_w_cl.2.2.2) (a := ρ t y) (cell := arrV (dA 0) (ax_len h t y) (fun j => Value.int (h.1 t y j))) (by rw [hT]; exact e1) (fun k q => by cases q) (fun q => by cases q) hnm f2 f3
        (fun i v hv => by
          have hk' : T.vm.classes[dA 0]? = some kA := hkA
          have hi : i < ax_len h t y := by
            have := (Array.getElem?_eq_some_iff.mp hv).1
            rwa [arrV_size] at this
          rw [arrV_read _ _ hi] at hv
          cases hv
          simp [State.fitsSlot, State.slotType?, arrV, hk', hkind, fits, ax_t2])
        (g := F0 mM pc ls (.ref (ρ t y) :: st.map (ax_cv ρ))) rfl (by rw [hml]; exact S6.1) rfl (by rw [hb]; exact hd) (by omega) (by rw [ax_sum_w]; show 2 * 0 + ax_w st + 14 ≤ R.locals; omega) (by have := hrm.2.2.1; omega) (by rw [arrV_size]; have := hrm.2.2.2; omega) (hloader := Vm.clonesLoader_of_array hkS hkindS)
      rw [arrV_size] at X'
      have k : W p l e R s mM args below meth c (H.push (arrV (dA 0) (ax_len h t y) (fun j => Value.int (h.1 t y j)))) locs ((ax_cl h t y a (ax_len h t y)).2.2.2.2.1 - hS.2.2.2.2.1) ((ax_cl h t y a (ax_len h t y)).2.2.2.2.2 - hS.2.2.2.2.2) QF (F0 mM (pc + 3) ls ((.inr (.inr (some (a, h.2.2.1 a))) :: st : List AV).map (ax_cv (ax_ext ρ a (h.2.2.1 a) H.size)))) := by
        refine ho.2.2 (ax_ext ρ a (h.2.2.1 a) H.size) _ locs ls ⟨S1.one (n := ax_len h t y) hot (Array.size_push _) (fun q hq => by rw [Array.getElem?_push, if_neg (Nat.ne_of_lt hq)]) rfl (fun x z j q => if_neg (fun w => q ⟨w.1, w.2.1⟩)) ?_ ?_, ?_, fun x => Nat.le_trans (S3 x) (ax_new_nle x), fun i v hi => (S4 i v hi).mono ax_new_nle, ax_fm (ax_al_r ax_new_lt) (fun v hv => (S5 v hv).mono ax_new_nle), S6.ext S4 hρ, S7, Nat.le_succ_of_le S8.1, Nat.le_trans S8.2 (Nat.le_add_right _ _)⟩
        · refine ⟨fun q => absurd q (by rw [hsk]; simp), fun _ => ?_⟩
          have e8 : ax_len (ax_cl h t y a (ax_len h t y)) a (h.2.2.1 a) = ax_len h t y := (ax_len_congr rfl).trans (ax_new_len (h := h) (Or.inr hsl))
          rw [ax_ext_eq, e8, hsk, Array.getElem?_push_size, ax_ev_prim rfl]
          congr 1
          refine ax_arrV_congr (fun j hj => ?_)
          have e9 : (ax_cl h t y a (ax_len h t y)).1 a (h.2.2.1 a) j = h.1 t y j := if_pos ⟨rfl, rfl, hj⟩
          rw [e9]
        · rw [ax_sz1 (by rw [hsk])]
          have e8 : ax_len (ax_cl h t y a (ax_len h t y)) a (h.2.2.1 a) = ax_len h t y := (ax_len_congr rfl).trans (ax_new_len (h := h) (Or.inr hsl))
          rw [e8]
          exact Nat.le_refl _
        · intro x z h9
          rw [hρ x z (Nat.lt_of_lt_of_le h9 (S3 x))]
          exact S2 x z h9
      have e5 : (ax_cl h t y a (ax_len h t y)).2.2.2.2.1 - hS.2.2.2.2.1 = h.2.2.2.2.1 - hS.2.2.2.2.1 + 1 := by show h.2.2.2.2.1 + 1 - hS.2.2.2.2.1 = _; omega
      have e6 : (ax_cl h t y a (ax_len h t y)).2.2.2.2.2 - hS.2.2.2.2.2 = h.2.2.2.2.2 - hS.2.2.2.2.2 + ax_len h t y := by show h.2.2.2.2.2 + ax_len h t y - hS.2.2.2.2.2 = _; omega
      rw [e5, e6, List.map_cons, ax_map_ext S5 hρ] at k
      have e7 : ax_cv (ax_ext ρ a (h.2.2.1 a) H.size) (.inr (.inr (some (a, h.2.2.1 a)))) = .ref H.size := by
        show Value.ref (ax_ext ρ a (h.2.2.1 a) H.size a (h.2.2.1 a)) = _
        rw [ax_ext_eq]
      rw [e7] at k
      subst hT
      obtain ⟨t2, a1, b1⟩ := k _ rfl X'
      exact ⟨t2, step t2 a1, b1⟩
theorem ax_s29 (X : ax_cx p l e R s mM args below meth c D dA Hb h0 ro d m hF hS) {nx a b : Nat} {n : Int32} {pc : Nat} {L : AL} {st : List AV} {h : AH} (hd : decode (ax_bc m) pc = .ok (ax_enc pc (29, nx, a, b, n), nx - pc)) (hs : ax_side m pc (29, nx, a, b, n) = true) (ho : ax_op (ax_call d) (ax_st (29, nx, a, b, n) m L st h) (ax_gd p l e R s mM args below meth c QF D dA Hb h0 ro ρ0 hF hS m) Q0) : ax_gd p l e R s mM args below meth c QF D dA Hb h0 ro ρ0 hF hS m (m, pc, L, st) h := by
  obtain ⟨hx, hb, hml, hown, hts, henv, hnm, hsb, hrm, hm⟩ := X
  change ax_op (ax_call d) (st_newm m nx a b L st h) (ax_gd p l e R s mM args below meth c QF D dA Hb h0 ro ρ0 hF hS m) Q0 at ho
  simp only [ax_side, Bool.and_eq_true, decide_eq_true_eq] at hs
  obtain ⟨h1, h2, hska, hskb, hab, h5a, h5b⟩ := hs
  have hab : a ≠ b := by
    rintro rfl
    simp at hab
  obtain rfl := ax_nxt h1
  rw [Nat.add_sub_cancel_left] at hd
  have hoa : ax_own a := by unfold ax_own; rw [hska]; simp
  have hob : ax_own b := by unfold ax_own; rw [hskb]; simp
  match st, ho with
  | .inl k0 :: .inl n0 :: st, ho =>
    unfold st_newm at ho
    dsimp only at ho
    cases hsa : ax_sl a with
    | none =>
      rw [hsa] at ho
      exact ho.elim
    | some N =>
    cases hsb : ax_sl b with
    | none =>
      rw [hsa, hsb] at ho
      exact ho.elim
    | some K =>
      rw [hsa, hsb] at ho
      unfold ax_sb at h5a h5b
      rw [hsa] at h5a
      rw [hsb] at h5b
      have hN6 : N ≤ 65536 := Nat.le_of_ble_eq_true h5a
      have hK6 : K ≤ 65536 := Nat.le_of_ble_eq_true h5b
      have ho : (((¬ n0 < 0) ∧ n0.toNatClampNeg = N) ∧ (¬ k0 < 0) ∧ k0.toNatClampNeg = K) ∧ ax_gd p l e R s mM args below meth c QF D dA Hb h0 ro ρ0 hF hS m (m, pc + 4, L, .inr (.inr (some (a, h.2.2.1 a))) :: st) (ax_mnew h a b N K) := ho
      obtain ⟨⟨⟨hn0, hnN⟩, hk0, hkK⟩, ho⟩ := ho
      have hcn : h.2.2.2.2.1 + 1 + N ≤ hF.2.2.2.2.1 ∧ h.2.2.2.2.2 + N + N * K ≤ hF.2.2.2.2.2 := ho.2.1
      refine ⟨rfl, ⟨by omega, by omega⟩, fun ρ H locs ls S => ?_⟩
      obtain ⟨S1, S2, S3, S4, S5, S6, S7, S8⟩ := S
      obtain ⟨-, S5⟩ := ax_fm1 S5
      obtain ⟨-, S5⟩ := ax_fm1 S5
      have hgn : ∀ x, (ax_mnew h a b N K).2.2.1 x = if x = b then h.2.2.1 b + N else if x = a then h.2.2.1 a + 1 else h.2.2.1 x := fun x => rfl
      have hgle : ∀ x, h.2.2.1 x ≤ (ax_mnew h a b N K).2.2.1 x := by
        intro x
        rw [hgn]
        split
        · rename_i e
          rw [e]
          omega
        · split
          · rename_i e
            rw [e]
            omega
          · exact Nat.le_refl _
      generalize hρe : (fun x y => if x = a ∧ y = h.2.2.1 a then H.size else if x = b ∧ h.2.2.1 b ≤ y then H.size + 1 + (y - h.2.2.1 b) else ρ x y) = ρ1
      have ra : ρ1 a (h.2.2.1 a) = H.size := by
        rw [← hρe]
        exact if_pos ⟨rfl, rfl⟩
      have rb : ∀ y, h.2.2.1 b ≤ y → ρ1 b y = H.size + 1 + (y - h.2.2.1 b) := by
        intro y hy
        rw [← hρe]
        show (if b = a ∧ y = h.2.2.1 a then H.size else if b = b ∧ h.2.2.1 b ≤ y then H.size + 1 + (y - h.2.2.1 b) else ρ b y) = _
        rw [if_neg (fun q => hab q.1.symm), if_pos ⟨rfl, hy⟩]
      have hρ : ∀ x y, y < h.2.2.1 x → ρ1 x y = ρ x y := by
        intro x y h9
        rw [← hρe]
        show (if x = a ∧ y = h.2.2.1 a then H.size else if x = b ∧ h.2.2.1 b ≤ y then H.size + 1 + (y - h.2.2.1 b) else ρ x y) = _
        rw [if_neg (fun q => by obtain ⟨rfl, rfl⟩ := q; omega), if_neg (fun q => by obtain ⟨rfl, q2⟩ := q; omega)]
      have hρ0 : ∀ x y, ¬ ax_own x → ρ1 x y = ρ x y := by
        intro x y h9
        rw [← hρe]
        show (if x = a ∧ y = h.2.2.1 a then H.size else if x = b ∧ h.2.2.1 b ≤ y then H.size + 1 + (y - h.2.2.1 b) else ρ x y) = _
        rw [if_neg (fun (q : x = a ∧ y = h.2.2.1 a) => h9 (q.1 ▸ hoa)), if_neg (fun (q : x = b ∧ h.2.2.1 b ≤ y) => h9 (q.1 ▸ hob))]
      have KK : ∀ (H1 : Heap) (cA comp : ClassId), H1.size = H.size + 1 + N → H1[H.size]? = some (arrV (dA 7) N (fun j => .ref (H.size + 1 + j))) → (∀ q, q < H.size → H1[q]? = H[q]?) → (∀ j, j < N → H1[H.size + 1 + j]? = some (arrV (dA 0) K (fun _ => .int 0))) → W p l e R s mM args below meth c H1 locs (h.2.2.2.2.1 - hS.2.2.2.2.1 + 1 + N) (h.2.2.2.2.2 - hS.2.2.2.2.2 + N + N * K) QF (F0 mM (pc + 4) ls (.ref H.size :: st.map (ax_cv ρ))) := by
        intro H1 cA comp z1 e1 o1 i1
        have kk : W p l e R s mM args below meth c H1 locs ((ax_mnew h a b N K).2.2.2.2.1 - hS.2.2.2.2.1) ((ax_mnew h a b N K).2.2.2.2.2 - hS.2.2.2.2.2) QF (F0 mM (pc + 4) ls ((.inr (.inr (some (a, h.2.2.1 a))) :: st : List AV).map (ax_cv ρ1))) := by
          refine ho.2.2 ρ1 H1 locs ls ⟨S1.grow (by omega) o1 hgle hρ hρ0 (fun x y j h9 => if_neg (fun q => by obtain ⟨rfl, q2, q3⟩ := q; omega)) (fun x y j h9 => ?_) (fun _ _ _ => rfl) (fun x y hx h8 h9 => ?_) (fun x y h8 h9 => ?_) (fun x y x' y' hx hx' g1 g2 g3 g4 ge => ?_) (fun x hx => ?_), ?_, fun x => Nat.le_trans (S3 x) (hgle x), fun i v hi => (S4 i v hi).mono hgle, ax_fm (ax_al_r ?_) (fun v hv => (S5 v hv).mono hgle), S6.ext S4 hρ, S7, ?_, ?_⟩
          · show (if x = a ∧ y = h.2.2.1 a ∧ j < N then some (b, h.2.2.1 b + j) else if x = b ∧ h.2.2.1 b ≤ y ∧ y < h.2.2.1 b + N ∧ j < K then none else h.2.1 x y j) = _
            rw [if_neg (fun q => by obtain ⟨rfl, rfl, q3⟩ := q; omega), if_neg (fun q => by obtain ⟨rfl, q2, q3⟩ := q; omega)]
          · rw [hgn] at h9
            by_cases eb : x = b
            · subst eb
              rw [if_pos rfl] at h9
              refine ⟨⟨fun q => absurd q (by rw [hskb]; simp), fun _ => ?_⟩, by rw [rb y h8]; omega⟩
              rw [rb y h8, i1 (y - h.2.2.1 x) (by omega), hskb]
              have e8 : ax_len (ax_mnew h a x N K) x y = K := by
                unfold ax_len
                rw [hsb]
              rw [e8]
              congr 1
              refine ax_arrV_congr (fun j hj => ?_)
              show Value.int 0 = .int (if x = x ∧ h.2.2.1 x ≤ y ∧ y < h.2.2.1 x + N ∧ j < K then 0 else h.1 x y j)
              rw [if_pos ⟨rfl, h8, by omega, hj⟩]
            · rw [if_neg eb] at h9
              by_cases ea : x = a
              · subst ea
                rw [if_pos rfl] at h9
                have e9 : y = h.2.2.1 x := by omega
                subst e9
                refine ⟨⟨fun q => absurd q (by rw [hska]; simp), fun _ => ?_⟩, by rw [ra]; exact Nat.le_refl _⟩
                rw [ra, e1, hska]
                have e8 : ax_len (ax_mnew h x b N K) x (h.2.2.1 x) = N := by
                  unfold ax_len
                  rw [hsa]
                rw [e8]
                congr 1
                refine ax_arrV_congr (fun j hj => ?_)
                show Value.ref (H.size + 1 + j) = ax_rv ρ1 (if x = x ∧ h.2.2.1 x = h.2.2.1 x ∧ j < N then some (b, h.2.2.1 b + j) else if x = b ∧ h.2.2.1 b ≤ h.2.2.1 x ∧ h.2.2.1 x < h.2.2.1 b + N ∧ j < K then none else h.2.1 x (h.2.2.1 x) j)
                rw [if_pos ⟨rfl, rfl, hj⟩]
                show Value.ref (H.size + 1 + j) = Value.ref (ρ1 b (h.2.2.1 b + j))
                rw [rb _ (Nat.le_add_right _ _), Nat.add_sub_cancel_left]
              · rw [if_neg ea] at h9
                omega
          · rw [hgn] at h9
            intro j hj t q hr
            have hr : (if x = a ∧ y = h.2.2.1 a ∧ j < N then some (b, h.2.2.1 b + j) else if x = b ∧ h.2.2.1 b ≤ y ∧ y < h.2.2.1 b + N ∧ j < K then none else h.2.1 x y j) = some (t, q) := hr
            by_cases eb : x = b
            · subst eb
              rw [if_pos rfl] at h9
              rw [ax_sz1 (by rw [hskb])] at hj
              have e8 : ax_len (ax_mnew h a x N K) x y = K := by
                unfold ax_len
                rw [hsb]
              rw [e8] at hj
              rw [if_neg (fun q => hab q.1.symm), if_pos ⟨rfl, h8, by omega, hj⟩] at hr
              cases hr
            · rw [if_neg eb] at h9
              by_cases ea : x = a
              · subst ea
                rw [if_pos rfl] at h9
                rw [ax_sz1 (by rw [hska])] at hj
                have e8 : ax_len (ax_mnew h x b N K) x y = N := by
                  unfold ax_len
                  rw [hsa]
                rw [e8] at hj
                rw [if_pos ⟨rfl, by omega, hj⟩] at hr
                cases hr
                rw [hgn, if_pos rfl]
                omega
              · rw [if_neg ea] at h9
                omega
          · rw [hgn] at g2 g4
            by_cases e1 : x = b <;> by_cases e2 : x' = b
            · subst e1
              subst e2
              rw [rb _ g1, rb _ g3] at ge
              exact ⟨rfl, by omega⟩
            · subst e1
              rw [if_neg e2] at g4
              by_cases e3 : x' = a
              · subst e3
                rw [if_pos rfl] at g4
                have e9 : y' = h.2.2.1 x' := by omega
                subst e9
                rw [rb _ g1, ra] at ge
                omega
              · rw [if_neg e3] at g4
                omega
            · subst e2
              rw [if_neg e1] at g2
              by_cases e3 : x = a
              · subst e3
                rw [if_pos rfl] at g2
                have e9 : y = h.2.2.1 x := by omega
                subst e9
                rw [rb _ g3, ra] at ge
                omega
              · rw [if_neg e3] at g2
                omega
            · rw [if_neg e1] at g2
              rw [if_neg e2] at g4
              by_cases e3 : x = a <;> by_cases e4 : x' = a
              · subst e3
                subst e4
                rw [if_pos rfl] at g2 g4
                exact ⟨rfl, by omega⟩
              · rw [if_neg e4] at g4
                omega
              · rw [if_neg e3] at g2
                omega
              · rw [if_neg e3] at g2
                omega
          · have n1 : x ≠ a := fun q => hx (q ▸ hoa)
            have n2 : x ≠ b := fun q => hx (q ▸ hob)
            refine ⟨?_, ?_, ?_, rfl⟩
            · funext y j
              exact if_neg (fun q => n2 q.1)
            · funext y j
              show (if x = a ∧ y = h.2.2.1 a ∧ j < N then some (b, h.2.2.1 b + j) else if x = b ∧ h.2.2.1 b ≤ y ∧ y < h.2.2.1 b + N ∧ j < K then none else h.2.1 x y j) = _
              rw [if_neg (fun q => n1 q.1), if_neg (fun q => n2 q.1)]
            · rw [hgn, if_neg n2, if_neg n1]
          · intro x y h9
            rw [hρ x y (Nat.lt_of_lt_of_le h9 (S3 x))]
            exact S2 x y h9
          · rw [hgn, if_neg hab, if_pos rfl]
            omega
          · show hS.2.2.2.2.1 ≤ h.2.2.2.2.1 + 1 + N
            omega
          · show hS.2.2.2.2.2 ≤ h.2.2.2.2.2 + N + N * K
            omega
        have e5 : (ax_mnew h a b N K).2.2.2.2.1 - hS.2.2.2.2.1 = h.2.2.2.2.1 - hS.2.2.2.2.1 + 1 + N := by show h.2.2.2.2.1 + 1 + N - hS.2.2.2.2.1 = _; omega
        have e6 : (ax_mnew h a b N K).2.2.2.2.2 - hS.2.2.2.2.2 = h.2.2.2.2.2 - hS.2.2.2.2.2 + N + N * K := by show h.2.2.2.2.2 + N + N * K - hS.2.2.2.2.2 = _; omega
        rw [e5, e6, List.map_cons, ax_map_ext S5 hρ] at kk
        have e7 : ax_cv ρ1 (.inr (.inr (some (a, h.2.2.1 a)))) = .ref H.size := by
          show Value.ref (ρ1 a (h.2.2.1 a)) = _
          rw [ra]
        rw [e7] at kk
        exact kk
      unfold ax_sk2 at h2
      rw [Bool.and_eq_true, Bool.and_eq_true, decide_eq_true_eq] at h2
      have hlk := ax_kt_word (Nat.le_of_ble_eq_true h2.2.2)
      rw [Nat.eq_of_beq_eq_true h2.1, h2.2.1] at hlk
      have hRA := (henv.1.2 7 _ (ax_tys_get (by decide))).2
      have hRB := (henv.1.2 0 _ (ax_tys_get (by decide))).2
      subst hnN
      subst hkK
      intro T hT Xs
      subst hT
      obtain ⟨vm₁, cA, comp, fA, fC, X', step⟩ := gm_step Xs hx hown (hts _ hlk) henv.2.2.2.2.2.2.2.2.2.2.2 (hts _ ax_w_ar.1) (g := F0 mM pc ls (.int k0 :: .int n0 :: st.map (ax_cv ρ))) rfl (by rw [hb]; exact hd) rfl hn0 hk0 (by omega) (by omega) (by have := hrm.2.2.1; omega) (by have := hrm.2.2.2; omega)
      have hcA : cA = dA 7 := Option.some.inj (fA.symm.trans hRA)
      have hcC : comp = dA 0 := Option.some.inj (fC.symm.trans hRB)
      subst hcA
      subst hcC
      obtain ⟨f1, f2, -, f4⟩ := gm_has (T.setVm vm₁) (dA 7) (dA 0) n0.toNatClampNeg k0.toNatClampNeg n0.toNatClampNeg
      rw [gm_o_full] at f2
      have kw := KK _ (dA 7) (dA 0) f1 f2 (fun q hq => (f4 q (Nat.ne_of_lt hq) (by show q < T.heap.size + 1 + _; omega)).trans (if_pos hq)) (fun j hj => (f4 (T.heap.size + 1 + j) (by show T.heap.size + 1 + j ≠ T.heap.size; omega) (by show T.heap.size + 1 + j < T.heap.size + 1 + _; omega)).trans (if_neg (by show ¬ T.heap.size + 1 + j < T.heap.size; omega)))
      obtain ⟨t, a1, b1⟩ := kw _ rfl X'
      exact ⟨t, step t a1, b1⟩
  | [], ho => exact ho.elim
  | .inr _ :: _, ho => exact ho.elim
  | [.inl _], ho => exact ho.elim
  | .inl _ :: .inr _ :: _, ho => exact ho.elim
end SND
