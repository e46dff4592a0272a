
theorem ax_nn {z : Int32} (hz : ¬ z < 0) : z.toInt = (z.toNatClampNeg : Int) := by
  have hz0 : (0 : Int) ≤ z.toInt := by
    have := Int32.not_lt.mp hz
    simpa using Int32.le_iff_toInt_le.mp this
  show z.toInt = ((z.toInt.toNat : Nat) : Int)
  omega
theorem ax_ev_prim {ρ : Nat → Nat → Nat} {h : AH} {t o c : Nat} (hc : Nat.ble 3 c = false) : ax_eval ρ h t o c = fun j => Value.int (h.1 t o j) := by
  funext j
  unfold ax_eval
  rw [hc]
  rfl
theorem ax_t2_prim {t : Nat} (h : t ≤ 2) : refKind (ax_t2 t) = false ∧ Nat.ble 3 t = false ∧ (∀ x : Int32, (t = 0 ∨ x = 0 ∨ x = 1) → fits (ax_t2 t) (.int x) = true) := by
  match t, h with
  | 0, _ => exact ⟨rfl, rfl, fun x _ => rfl⟩
  | 1, _ => exact ⟨rfl, rfl, fun x hx => by rcases hx with e | e | e <;> first | exact absurd e (by decide) | (rw [e]; decide)⟩
  | 2, _ => exact ⟨rfl, rfl, fun x hx => by rcases hx with e | e | e <;> first | exact absurd e (by decide) | (rw [e]; decide)⟩
section SND
variable {p : Program} {l : Launch} {e : Env} {R : Room} {s : State} {mM : MethodId} {args : Array Value} {below : List Frame} {meth : Method} {c : Code} {QF : State → Prop} {D : va_G} {dA : Nat → ClassId} {Hb : Heap} {h0 hF hS : AH} {ro ρ0 : Nat → Nat → Nat} {d m : Nat} {Q0 : Option AV → AH → Prop}
theorem ax_s43 (X : ax_cx p l e R s mM args below meth c D dA Hb h0 ro d m hF hS) {nx a b : Nat} {n : Int32} {pc : Nat} {L : AL} {st : List AV} {h : AH} (hd : decode (ax_bc m) pc = .ok (ax_enc pc (43, nx, a, b, n), nx - pc)) (hs : ax_side m pc (43, nx, a, b, n) = true) (ho : ax_op (ax_call d) (ax_st (43, nx, a, b, n) m L st h) (ax_gd p l e R s mM args below meth c QF D dA Hb h0 ro ρ0 hF hS m) Q0) : ax_gd p l e R s mM args below meth c QF D dA Hb h0 ro ρ0 hF hS m (m, pc, L, st) h := by
  obtain ⟨hx, hb, hml, hown, hts, henv, hnm, hsb, hrm, hm⟩ := X
  change ax_op (ax_call d) (st_acp m nx L st h) (ax_gd p l e R s mM args below meth c QF D dA Hb h0 ro ρ0 hF hS m) Q0 at ho
  simp only [ax_side, Bool.and_eq_true, decide_eq_true_eq] at hs
  obtain ⟨hn1, hlk⟩ := hs
  obtain rfl := ax_nxt hn1
  rw [Nat.add_sub_cancel_left] at hd
  match st, ho with
  | .inl n0 :: .inl dp :: .inr (.inr (some (t, y))) :: .inl sp :: .inr (.inr (some (u, x))) :: st, ho =>
    unfold st_acp at ho
    dsimp only at ho
    cases hoc : (Nat.ble (ax_w st) 8 && ax_ar u && Nat.beq (ax_sk t).1 1 && Nat.beq (ax_sk u).2 (ax_sk t).2 && Nat.ble (ax_sk u).2 2) with
    | false => rw [hoc] at ho; exact ho.elim
    | true =>
      rw [hoc] at ho
      simp only [Bool.and_eq_true] at hoc
      obtain ⟨⟨⟨⟨c1, c2⟩, c3⟩, c4⟩, c5⟩ := hoc
      have hw8 := Nat.le_of_ble_eq_true c1
      have hk1 := Nat.eq_of_beq_eq_true c3
      have hty := Nat.eq_of_beq_eq_true c4
      obtain ⟨p1, p2, p3⟩ := ax_t2_prim (Nat.le_of_ble_eq_true c5)
      obtain ⟨⟨⟨b1, b2, b3, b4, b5⟩, b6⟩, ho⟩ := ho
      have ho : ax_gd p l e R s mM args below meth c QF D dA Hb h0 ro ρ0 hF hS m (m, pc + 3, L, st) (ax_cI h.1 u x sp.toNatClampNeg t y dp.toNatClampNeg n0.toNatClampNeg, h.2) := ho
      refine ⟨rfl, ho.2.1, fun ρ H locs ls S => ?_⟩
      obtain ⟨S1, S2, S3, S4, S5, S6, S7, S8⟩ := S
      obtain ⟨-, S5⟩ := ax_fm1 S5
      obtain ⟨-, S5⟩ := ax_fm1 S5
      obtain ⟨ht, S5⟩ := ax_fm1 S5
      obtain ⟨-, S5⟩ := ax_fm1 S5
      obtain ⟨hu, S5⟩ := ax_fm1 S5
      have ht := ht t y rfl
      have hu := hu u x rfl
      obtain ⟨cs, e1, e2, e3, -, e5, e6⟩ := ax_warr henv S1 c2 hu
      have how : ax_own t := by unfold ax_own; omega
      have f1 := (S1.1 t y how ht).1.2 hk1
      have hba := (S1.1 t y how ht).2
      rw [← hty] at f1
      rw [ax_ev_prim p2] at f1
      have f2 := (henv.1.2 (ax_sk u).2 _ (ax_tys_get (by have := Nat.le_of_ble_eq_true c5; omega))).1 (ax_len h t y) (fun j => Value.int (h.1 t y j))
      have e6 : ∀ j, j < ax_len h u x → cs.slots[j]? = some (Value.int (h.1 u x j)) := fun j hj => by rw [e6 j hj, ax_ev_prim p2]
      intro T hT X
      obtain ⟨g1, k0, hk0, cm0, hkk0⟩ := e2
      obtain ⟨-, k1, hkk, cm1, hkk1⟩ := f2
      have slen : (arrV (dA (ax_sk u).2) (ax_len h t y) (fun j => Value.int (h.1 t y j))).slots.size = ax_len h t y := arrV_size _ _ _
      obtain ⟨vm', X', step⟩ := X.arraycopy hx hown (hts _ hlk) (hts _ ax_w_ac.1) (hts _ ax_w_ac.2.1) (hts _ ax_w_ac.2.2) (src := ρ u x) (dst := ρ t y) (cs := cs) (srcPos := sp) (destPos := dp) (n := n0) (by rw [hT]; exact e1) (by rw [hT]; exact f1)
        g1 (fun _ q => by cases q) e3 (fun q => by cases q) hk0 hkk hkk0 hkk1 (by simp [p1]) b1 b2 b3
        (by rw [ax_nn b1, ax_nn b3]; omega)
        (by rw [ax_nn b2, ax_nn b3, slen]; omega)
        (fun vm₁ _ i hi => by
          have e : cs.slots.getD (sp.toNatClampNeg + i) .null = .int (h.1 u x (sp.toNatClampNeg + i)) := by
            rw [Array.getD_eq_getD_getElem?, e6 _ (by omega)]
            rfl
          rw [e]
          exact ⟨p3 _ (b6.imp id (fun q => q i hi)), trivial⟩)
        (g := F0 mM pc ls (.int n0 :: .int dp :: .ref (ρ t y) :: .int sp :: .ref (ρ u x) :: st.map (ax_cv ρ))) rfl (by rw [hml]; exact S6.1) (rest := st.map (ax_cv ρ)) rfl (by rw [hb]; exact hd) (by omega) (by
          rw [ax_sum_w]
          show 2 * 0 + ax_w st + (nativeFrameWords "java/lang/System" "arraycopy" 5 + 11) ≤ R.locals
          have : nativeFrameWords "java/lang/System" "arraycopy" 5 = 7 := by decide
          omega)
      have e9 : copied cs (arrV (dA (ax_sk u).2) (ax_len h t y) (fun j => Value.int (h.1 t y j))) sp dp n0 = arrV (dA (ax_sk u).2) (ax_len h t y) (fun j => Value.int (va_cpy (h.1 u x) (h.1 t y) sp.toNatClampNeg dp.toNatClampNeg n0.toNatClampNeg j)) := va_copiedX (fun z => Value.int z) cs _ (h.1 u x) (h.1 t y) e6 b4
      rw [e9] at X' step
      have hl : ρ t y < H.size := (Array.getElem?_eq_some_iff.mp f1).1
      have hheap : ((T.setVm vm').setCell (ρ t y) (arrV (dA (ax_sk u).2) (ax_len h t y) (fun j => Value.int (va_cpy (h.1 u x) (h.1 t y) sp.toNatClampNeg dp.toNatClampNeg n0.toNatClampNeg j)))).heap = H.setIfInBounds (ρ t y) (arrV (dA (ax_sk u).2) (ax_len h t y) (fun j => Value.int (va_cpy (h.1 u x) (h.1 t y) sp.toNatClampNeg dp.toNatClampNeg n0.toNatClampNeg j))) := by rw [← hT]; rfl
      have k := ho.2.2 ρ _ (locs ++ (cs.stretch sp.toNatClampNeg n0.toNatClampNeg).zipIdx.map fun q => ⟨ρ t y, dp.toNatClampNeg + q.2⟩) ls ⟨S1.set how ht (h' := (ax_cI h.1 u x sp.toNatClampNeg t y dp.toNatClampNeg n0.toNatClampNeg, h.2)) (H' := H.setIfInBounds (ρ t y) (arrV (dA (ax_sk u).2) (ax_len h t y) (fun j => Value.int (va_cpy (h.1 u x) (h.1 t y) sp.toNatClampNeg dp.toNatClampNeg n0.toNatClampNeg j)))) rfl (fun a1 a2 a3 q => if_neg (fun z => q ⟨z.1, z.2.1⟩)) (fun _ _ _ _ => rfl) (by simp) (fun q hq => by simp [Array.getElem?_setIfInBounds, Ne.symm hq]) ⟨fun q => absurd q (by omega), fun _ => by
          rw [← hty, ax_ev_prim p2]
          have e10 : ∀ j, va_cpy (h.1 u x) (h.1 t y) sp.toNatClampNeg dp.toNatClampNeg n0.toNatClampNeg j = ax_cI h.1 u x sp.toNatClampNeg t y dp.toNatClampNeg n0.toNatClampNeg t y j := fun j => by
            unfold va_cpy ax_cI
            by_cases q : dp.toNatClampNeg ≤ j ∧ j < dp.toNatClampNeg + n0.toNatClampNeg
            · rw [if_pos q, if_pos ⟨rfl, rfl, q.1, q.2⟩]
            · rw [if_neg q, if_neg (fun z => q z.2.2)]
          simp only [e10]
          simp [Array.getElem?_setIfInBounds, hl]
          rfl⟩ (S1.2.2.1 t y ht), S2, S3, S4, S5, S6, fun q hq => by
          rcases List.mem_append.mp hq with q1 | q1
          · exact S7 q q1
          · obtain ⟨z, -, hz⟩ := List.mem_map.mp q1
            rw [← hz]
            exact hba, S8⟩
      obtain ⟨t2, a1, d1⟩ := k _ hheap X'
      exact ⟨t2, step t2 a1, d1⟩
theorem ax_s44 (X : ax_cx p l e R s mM args below meth c D dA Hb h0 ro d m hF hS) {nx a b : Nat} {n : Int32} {pc : Nat} {L : AL} {st : List AV} {h : AH} (hd : decode (ax_bc m) pc = .ok (ax_enc pc (44, nx, a, b, n), nx - pc)) (hs : ax_side m pc (44, nx, a, b, n) = true) (ho : ax_op (ax_call d) (ax_st (44, nx, a, b, n) m L st h) (ax_gd p l e R s mM args below meth c QF D dA Hb h0 ro ρ0 hF hS m) Q0) : ax_gd p l e R s mM args below meth c QF D dA Hb h0 ro ρ0 hF hS m (m, pc, L, st) h := by
  obtain ⟨hx, hb, hml, hown, hts, henv, hnm, hsb, hrm, hm⟩ := X
  change ax_op (ax_call d) (st_clo m nx a L st h) (ax_gd p l e R s mM args below meth c QF D dA Hb h0 ro ρ0 hF hS m) Q0 at ho
  simp only [ax_side, Bool.and_eq_true, decide_eq_true_eq] at hs
  obtain ⟨hn1, hlk, hsk, hsl⟩ := hs
  obtain rfl := ax_nxt hn1
  rw [Nat.add_sub_cancel_left] at hd
  match st, ho with
  | .inr (.inr (some (t, y))) :: st, ho =>
    unfold st_clo at ho
    dsimp only at ho
    cases hoc : (Nat.ble (ax_w st) 8 && ax_a1 t 0) with
    | false => rw [hoc] at ho; exact ho.elim
    | true =>
      rw [hoc] at ho
      rw [Bool.and_eq_true] at hoc
      obtain ⟨c1, c2⟩ := hoc
      have hw8 := Nat.le_of_ble_eq_true c1
      unfold ax_a1 at c2
      rw [Bool.and_eq_true] at c2
      have hk1 := Nat.eq_of_beq_eq_true c2.1
      have hz0 := Nat.eq_of_beq_eq_true c2.2
      have ho : ax_gd p l e R s mM args below meth c QF D dA Hb h0 ro ρ0 hF hS m (m, pc + 3, L, .inr (.inr (some (a, h.2.2.1 a))) :: st) (ax_cl h t y a (ax_len h t y)) := ho
      have hot : ax_own a := by unfold ax_own; rw [hsk]; simp
      have hcn : h.2.2.2.2.1 + 1 ≤ hF.2.2.2.2.1 ∧ h.2.2.2.2.2 + ax_len h t y ≤ hF.2.2.2.2.2 := ho.2.1
      refine ⟨rfl, ⟨by omega, by omega⟩, fun ρ H locs ls S => ?_⟩
      obtain ⟨S1, S2, S3, S4, S5, S6, S7, S8⟩ := S
      obtain ⟨hal, S5⟩ := ax_fm1 S5
      have hlt := hal t y rfl
      have e1 := (S1.1 t y (by unfold ax_own; omega) hlt).1.2 hk1
      rw [hz0, ax_ev_prim rfl] at e1
      have hρ : ∀ x z, z < h.2.2.1 x → ax_ext ρ a (h.2.2.1 a) H.size x z = ρ x z := fun x z h9 => ax_ext_ne (fun q => by obtain ⟨rfl, rfl⟩ := q; omega)
      have hnm : s.vm.findClass "[I" = some (dA 0) := (henv.1.2 0 _ (ax_tys_get (by decide))).2
      obtain ⟨cc0, tt0, f1, f2, f3⟩ := Cond.castable_spec (va_Nw.use (A := args) rfl (henv.2.1 _ ax_w_cs))
      cases hnm.symm.trans f1
      have hAr := (henv.1.2 0 _ (ax_tys_get (by decide))).1
      obtain ⟨-, kS, hkS, compS, hkindS⟩ := hAr 0 (fun _ => .null)
      intro T hT X
      obtain ⟨-, kA, hkA, comp, hkind⟩ := State.isArrayOf_alike X.warmed.alike (hAr 0 (fun _ => .null))
      obtain ⟨vm', X', step⟩ := X.cloneArray hx hown (hts _ hlk) (hts _ ax_w_cl.1) (hts _ ax_w_cl.2.1) (hts _ ax_w_cl.2.2.1) (hts _ ax_w_cl.2.2.2) (a := ρ t y) (cell := arrV (dA 0) (ax_len h t y) (fun j => Value.int (h.1 t y j))) (by rw [hT]; exact e1) (fun k q => by cases q) (fun q => by cases q) hnm f2 f3
        (fun i v hv => by
          have hk' : T.vm.classes[dA 0]? = some kA := hkA
          have hi : i < ax_len h t y := by
            have := (Array.getElem?_eq_some_iff.mp hv).1
            rwa [arrV_size] at this
          rw [arrV_read _ _ hi] at hv
          cases hv
          simp [State.fitsSlot, State.slotType?, arrV, hk', hkind, fits, ax_t2])
        (g := F0 mM pc ls (.ref (ρ t y) :: st.map (ax_cv ρ))) rfl (by rw [hml]; exact S6.1) rfl (by rw [hb]; exact hd) (by omega) (by rw [ax_sum_w]; show 2 * 0 + ax_w st + 14 ≤ R.locals; omega) (by have := hrm.2.2.1; omega) (by rw [arrV_size]; have := hrm.2.2.2; omega) (hloader := Vm.clonesLoader_of_array hkS hkindS)
      rw [arrV_size] at X'
      have k : W p l e R s mM args below meth c (H.push (arrV (dA 0) (ax_len h t y) (fun j => Value.int (h.1 t y j)))) locs ((ax_cl h t y a (ax_len h t y)).2.2.2.2.1 - hS.2.2.2.2.1) ((ax_cl h t y a (ax_len h t y)).2.2.2.2.2 - hS.2.2.2.2.2) QF (F0 mM (pc + 3) ls ((.inr (.inr (some (a, h.2.2.1 a))) :: st : List AV).map (ax_cv (ax_ext ρ a (h.2.2.1 a) H.size)))) := by
        refine ho.2.2 (ax_ext ρ a (h.2.2.1 a) H.size) _ locs ls ⟨S1.one (n := ax_len h t y) hot (Array.size_push _) (fun q hq => by rw [Array.getElem?_push, if_neg (Nat.ne_of_lt hq)]) rfl (fun x z j q => if_neg (fun w => q ⟨w.1, w.2.1⟩)) ?_ ?_, ?_, fun x => Nat.le_trans (S3 x) (ax_new_nle x), fun i v hi => (S4 i v hi).mono ax_new_nle, ax_fm (ax_al_r ax_new_lt) (fun v hv => (S5 v hv).mono ax_new_nle), S6.ext S4 hρ, S7, Nat.le_succ_of_le S8.1, Nat.le_trans S8.2 (Nat.le_add_right _ _)⟩
        · refine ⟨fun q => absurd q (by rw [hsk]; simp), fun _ => ?_⟩
          have e8 : ax_len (ax_cl h t y a (ax_len h t y)) a (h.2.2.1 a) = ax_len h t y := (ax_len_congr rfl).trans (ax_new_len (h := h) (Or.inr hsl))
          rw [ax_ext_eq, e8, hsk, Array.getElem?_push_size, ax_ev_prim rfl]
          congr 1
          refine ax_arrV_congr (fun j hj => ?_)
          have e9 : (ax_cl h t y a (ax_len h t y)).1 a (h.2.2.1 a) j = h.1 t y j := if_pos ⟨rfl, rfl, hj⟩
          rw [e9]
        · rw [ax_sz1 (by rw [hsk])]
          have e8 : ax_len (ax_cl h t y a (ax_len h t y)) a (h.2.2.1 a) = ax_len h t y := (ax_len_congr rfl).trans (ax_new_len (h := h) (Or.inr hsl))
          rw [e8]
          exact Nat.le_refl _
        · intro x z h9
          rw [hρ x z (Nat.lt_of_lt_of_le h9 (S3 x))]
          exact S2 x z h9
      have e5 : (ax_cl h t y a (ax_len h t y)).2.2.2.2.1 - hS.2.2.2.2.1 = h.2.2.2.2.1 - hS.2.2.2.2.1 + 1 := by show h.2.2.2.2.1 + 1 - hS.2.2.2.2.1 = _; omega
      have e6 : (ax_cl h t y a (ax_len h t y)).2.2.2.2.2 - hS.2.2.2.2.2 = h.2.2.2.2.2 - hS.2.2.2.2.2 + ax_len h t y := by show h.2.2.2.2.2 + ax_len h t y - hS.2.2.2.2.2 = _; omega
      rw [e5, e6, List.map_cons, ax_map_ext S5 hρ] at k
      have e7 : ax_cv (ax_ext ρ a (h.2.2.1 a) H.size) (.inr (.inr (some (a, h.2.2.1 a)))) = .ref H.size := by
        show Value.ref (ax_ext ρ a (h.2.2.1 a) H.size a (h.2.2.1 a)) = _
        rw [ax_ext_eq]
      rw [e7] at k
      subst hT
      obtain ⟨t2, a1, b1⟩ := k _ rfl X'
      exact ⟨t2, step t2 a1, b1⟩
theorem ax_s29 (X : ax_cx p l e R s mM args below meth c D dA Hb h0 ro d m hF hS) {nx a b : Nat} {n : Int32} {pc : Nat} {L : AL} {st : List AV} {h : AH} (hd : decode (ax_bc m) pc = .ok (ax_enc pc (29, nx, a, b, n), nx - pc)) (hs : ax_side m pc (29, nx, a, b, n) = true) (ho : ax_op (ax_call d) (ax_st (29, nx, a, b, n) m L st h) (ax_gd p l e R s mM args below meth c QF D dA Hb h0 ro ρ0 hF hS m) Q0) : ax_gd p l e R s mM args below meth c QF D dA Hb h0 ro ρ0 hF hS m (m, pc, L, st) h := by
  obtain ⟨hx, hb, hml, hown, hts, henv, hnm, hsb, hrm, hm⟩ := X
  sorry
end SND
