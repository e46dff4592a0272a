section SND
variable {p : Program} {l : Launch} {e : Env} {R : Room} {s : State} {mM : MethodId} {args : Array Value} {below : List Frame} {meth : Method} {c : Code} {QF : State → Prop} {D : va_G} {dA : Nat → ClassId} {Hb : Heap} {h0 hF hS : AH} {ro ρ0 : Nat → Nat → Nat} {d m : Nat} {Q0 : Option AV → AH → Prop}
theorem ax_s0 (X : ax_cx p l e R s mM args below meth c D dA Hb h0 ro d m hF hS) {nx a b : Nat} {n : Int32} {pc : Nat} {L : AL} {st : List AV} {h : AH} (hd : decode (ax_bc m) pc = .ok (ax_enc pc (0, nx, a, b, n), nx - pc)) (hs : ax_side m pc (0, nx, a, b, n) = true) (ho : ax_op (ax_call d) (ax_st (0, nx, a, b, n) m L st h) (ax_gd p l e R s mM args below meth c QF D dA Hb h0 ro ρ0 hF hS m) Q0) : ax_gd p l e R s mM args below meth c QF D dA Hb h0 ro ρ0 hF hS m (m, pc, L, st) h := by
  obtain ⟨hx, hb, hml, hown, hts, henv, hnm, hsb, hrm, hm⟩ := X
  have ho : ax_gd p l e R s mM args below meth c QF D dA Hb h0 ro ρ0 hF hS m (m, nx, L, .inl n :: st) h := ho
  refine ⟨rfl, ho.2.1, fun ρ H locs ls S => ?_⟩
  have k := ho.2.2 ρ H locs ls ⟨S.1, S.2.1, S.2.2.1, S.2.2.2.1, ax_fm ax_al_i S.2.2.2.2.1, S.2.2.2.2.2⟩
  match b, hd, hs with
  | 0, hd, hs =>
    simp only [ax_side, Bool.and_eq_true, decide_eq_true_eq] at hs
    obtain ⟨h1, h2⟩ := hs
    obtain rfl := ax_nxt h1
    rw [Nat.add_sub_cancel_left] at hd
    exact lv_iconst hx hb hd h2 k
  | 1, hd, hs =>
    simp only [ax_side, Bool.and_eq_true, decide_eq_true_eq] at hs
    obtain ⟨h1, h2⟩ := hs
    obtain rfl := ax_nxt h1
    rw [Nat.add_sub_cancel_left] at hd
    exact lv_bipush hx hb hd h2 k
  | 2, hd, hs =>
    simp only [ax_side, Bool.and_eq_true, decide_eq_true_eq] at hs
    obtain ⟨h1, h2⟩ := hs
    obtain rfl := ax_nxt h1
    rw [Nat.add_sub_cancel_left] at hd
    exact lv_sipush hx hb hd h2 k
  | 3, hd, hs =>
    simp only [ax_side, Bool.and_eq_true, decide_eq_true_eq] at hs
    obtain ⟨h1, h2, h3, h4⟩ := hs
    obtain rfl := ax_nxt h1
    rw [Nat.add_sub_cancel_left] at hd
    have hw := ax_ct_word (Nat.le_of_ble_eq_true h4)
    rw [Nat.eq_of_beq_eq_true h2, h3] at hw
    exact lv_ldc hx hb hown (hts _ hw) hd k
  | 4, hd, hs =>
    simp only [ax_side, Bool.and_eq_true, decide_eq_true_eq] at hs
    obtain ⟨h1, h2, h3, h4⟩ := hs
    obtain rfl := ax_nxt h1
    rw [Nat.add_sub_cancel_left] at hd
    have hw := ax_ct_word (Nat.le_of_ble_eq_true h4)
    rw [Nat.eq_of_beq_eq_true h2, h3] at hw
    exact lv_ldcw hx hb hown (hts _ hw) hd k
  | b + 5, hd, hs => cases hs
theorem ax_s1 (X : ax_cx p l e R s mM args below meth c D dA Hb h0 ro d m hF hS) {nx a b : Nat} {n : Int32} {pc : Nat} {L : AL} {st : List AV} {h : AH} (hd : decode (ax_bc m) pc = .ok (ax_enc pc (1, nx, a, b, n), nx - pc)) (hs : ax_side m pc (1, nx, a, b, n) = true) (ho : ax_op (ax_call d) (ax_st (1, nx, a, b, n) m L st h) (ax_gd p l e R s mM args below meth c QF D dA Hb h0 ro ρ0 hF hS m) Q0) : ax_gd p l e R s mM args below meth c QF D dA Hb h0 ro ρ0 hF hS m (m, pc, L, st) h := by
  obtain ⟨hx, hb, hml, hown, hts, henv, hnm, hsb, hrm, hm⟩ := X
  have ho : ax_gd p l e R s mM args below meth c QF D dA Hb h0 ro ρ0 hF hS m (m, nx, L, .inr (.inl n.toInt64) :: st) h := ho
  refine ⟨rfl, ho.2.1, fun ρ H locs ls S => ?_⟩
  have k := ho.2.2 ρ H locs ls ⟨S.1, S.2.1, S.2.2.1, S.2.2.2.1, ax_fm ax_al_l S.2.2.2.2.1, S.2.2.2.2.2⟩
  match b, hd, hs with
  | 0, hd, hs =>
    simp only [ax_side, Bool.and_eq_true, decide_eq_true_eq] at hs
    obtain ⟨h1, h2⟩ := hs
    obtain rfl := ax_nxt h1
    rw [Nat.add_sub_cancel_left] at hd
    exact lv_lconst hx hb hd h2 k
  | 1, hd, hs =>
    simp only [ax_side, Bool.and_eq_true, decide_eq_true_eq] at hs
    obtain ⟨h1, h2, h3, h4⟩ := hs
    obtain rfl := ax_nxt h1
    rw [Nat.add_sub_cancel_left] at hd
    have hw := ax_lt_word (Nat.le_of_ble_eq_true h4)
    rw [Nat.eq_of_beq_eq_true h2, h3] at hw
    exact lv_ldc2 hx hb hown (hts _ hw) hd k
  | b + 2, hd, hs => cases hs
theorem ax_s2 (X : ax_cx p l e R s mM args below meth c D dA Hb h0 ro d m hF hS) {nx a b : Nat} {n : Int32} {pc : Nat} {L : AL} {st : List AV} {h : AH} (hd : decode (ax_bc m) pc = .ok (ax_enc pc (2, nx, a, b, n), nx - pc)) (hs : ax_side m pc (2, nx, a, b, n) = true) (ho : ax_op (ax_call d) (ax_st (2, nx, a, b, n) m L st h) (ax_gd p l e R s mM args below meth c QF D dA Hb h0 ro ρ0 hF hS m) Q0) : ax_gd p l e R s mM args below meth c QF D dA Hb h0 ro ρ0 hF hS m (m, pc, L, st) h := by
  obtain ⟨hx, hb, hml, hown, hts, henv, hnm, hsb, hrm, hm⟩ := X
  change ax_op (ax_call d) (st_load m nx a b L st h) (ax_gd p l e R s mM args below meth c QF D dA Hb h0 ro ρ0 hF hS m) Q0 at ho
  unfold st_load at ho
  cases hv : ax_lget L a with
  | none => rw [hv] at ho; exact ho.elim
  | some v =>
    rw [hv] at ho
    cases ht : Nat.beq (ax_tg v) (b / 2) with
    | false =>
      simp only [ht, cond_false] at ho
      exact ho.elim
    | true =>
      simp only [ht, cond_true] at ho
      have ho : ax_gd p l e R s mM args below meth c QF D dA Hb h0 ro ρ0 hF hS m (m, nx, L, v :: st) h := ho
      refine ⟨rfl, ho.2.1, fun ρ H locs ls S => ?_⟩
      have k := ho.2.2 ρ H locs ls ⟨S.1, S.2.1, S.2.2.1, S.2.2.2.1, ax_fm (S.2.2.2.1 a v hv) S.2.2.2.2.1, S.2.2.2.2.2⟩
      have hl := S.2.2.2.2.2.1.2.2 a v hv
      have ht := Nat.eq_of_beq_eq_true ht
      simp only [ax_side, Bool.and_eq_true] at hs
      have hb6 : b < 6 := Nat.le_of_ble_eq_true hs.1
      match b, hb6, hd, hs, ht with
      | 0, _, hd, hs, ht =>
        obtain ⟨-, h1⟩ := hs
        have h1 : (Nat.beq nx (pc + 1) && Nat.blt a 4) = true := h1
        rw [Bool.and_eq_true] at h1
        have h4 : a < 4 := Nat.le_of_ble_eq_true h1.2
        obtain rfl := ax_nxt h1.1
        rw [Nat.add_sub_cancel_left] at hd
        match v, ht, hl, k with
        | .inl x, _, hl, k => exact lv_iload_n hx hb hd (by show a % 4 = a; omega) hl k
        | .inr (.inl x), ht, _, _ => exact absurd (show (1 : Nat) = 0 from ht) (by decide)
        | .inr (.inr x), ht, _, _ => exact absurd (show (2 : Nat) = 0 from ht) (by decide)
      | 1, _, hd, hs, ht =>
        obtain ⟨-, h1⟩ := hs
        have h1 : Nat.beq nx (pc + 2) = true := h1
        obtain rfl := ax_nxt h1
        rw [Nat.add_sub_cancel_left] at hd
        match v, ht, hl, k with
        | .inl x, _, hl, k => exact lv_iload hx hb hd hl k
        | .inr (.inl x), ht, _, _ => exact absurd (show (1 : Nat) = 0 from ht) (by decide)
        | .inr (.inr x), ht, _, _ => exact absurd (show (2 : Nat) = 0 from ht) (by decide)
      | 2, _, hd, hs, ht =>
        obtain ⟨-, h1⟩ := hs
        have h1 : (Nat.beq nx (pc + 1) && Nat.blt a 4) = true := h1
        rw [Bool.and_eq_true] at h1
        have h4 : a < 4 := Nat.le_of_ble_eq_true h1.2
        obtain rfl := ax_nxt h1.1
        rw [Nat.add_sub_cancel_left] at hd
        match v, ht, hl, k with
        | .inl x, ht, _, _ => exact absurd (show (0 : Nat) = 1 from ht) (by decide)
        | .inr (.inl x), _, hl, k => exact lv_lload_n hx hb hd (by show a % 4 = a; omega) hl k
        | .inr (.inr x), ht, _, _ => exact absurd (show (2 : Nat) = 1 from ht) (by decide)
      | 3, _, hd, hs, ht =>
        obtain ⟨-, h1⟩ := hs
        have h1 : Nat.beq nx (pc + 2) = true := h1
        obtain rfl := ax_nxt h1
        rw [Nat.add_sub_cancel_left] at hd
        match v, ht, hl, k with
        | .inl x, ht, _, _ => exact absurd (show (0 : Nat) = 1 from ht) (by decide)
        | .inr (.inl x), _, hl, k => exact lv_lload hx hb hd hl k
        | .inr (.inr x), ht, _, _ => exact absurd (show (2 : Nat) = 1 from ht) (by decide)
      | 4, _, hd, hs, ht =>
        obtain ⟨-, h1⟩ := hs
        have h1 : (Nat.beq nx (pc + 1) && Nat.blt a 4) = true := h1
        rw [Bool.and_eq_true] at h1
        have h4 : a < 4 := Nat.le_of_ble_eq_true h1.2
        obtain rfl := ax_nxt h1.1
        rw [Nat.add_sub_cancel_left] at hd
        match v, ht, hl, k with
        | .inl x, ht, _, _ => exact absurd (show (0 : Nat) = 2 from ht) (by decide)
        | .inr (.inl x), ht, _, _ => exact absurd (show (1 : Nat) = 2 from ht) (by decide)
        | .inr (.inr x), _, hl, k =>
          rcases ax_rv_cases (ρ := ρ) x with e1 | ⟨y, e1⟩
          · have hl : ls[a]? = some (.val .null) := by rw [← e1]; exact hl
            have k : W p l e R s mM args below meth c H locs (h.2.2.2.2.1 - hS.2.2.2.2.1) (h.2.2.2.2.2 - hS.2.2.2.2.2) QF (F0 mM (pc + 1) ls (.null :: st.map (ax_cv ρ))) := by rw [← e1]; exact k
            exact lv_aload_nN hx hb hd (by show a % 4 = a; omega) hl k
          · have hl : ls[a]? = some (.val (.ref y)) := by rw [← e1]; exact hl
            have k : W p l e R s mM args below meth c H locs (h.2.2.2.2.1 - hS.2.2.2.2.1) (h.2.2.2.2.2 - hS.2.2.2.2.2) QF (F0 mM (pc + 1) ls (.ref y :: st.map (ax_cv ρ))) := by rw [← e1]; exact k
            exact lv_aload_n hx hb hd (by show a % 4 = a; omega) hl k
      | 5, _, hd, hs, ht =>
        obtain ⟨-, h1⟩ := hs
        have h1 : Nat.beq nx (pc + 2) = true := h1
        obtain rfl := ax_nxt h1
        rw [Nat.add_sub_cancel_left] at hd
        match v, ht, hl, k with
        | .inl x, ht, _, _ => exact absurd (show (0 : Nat) = 2 from ht) (by decide)
        | .inr (.inl x), ht, _, _ => exact absurd (show (1 : Nat) = 2 from ht) (by decide)
        | .inr (.inr x), _, hl, k =>
          rcases ax_rv_cases (ρ := ρ) x with e1 | ⟨y, e1⟩
          · have hl : ls[a]? = some (.val .null) := by rw [← e1]; exact hl
            have k : W p l e R s mM args below meth c H locs (h.2.2.2.2.1 - hS.2.2.2.2.1) (h.2.2.2.2.2 - hS.2.2.2.2.2) QF (F0 mM (pc + 2) ls (.null :: st.map (ax_cv ρ))) := by rw [← e1]; exact k
            exact lv_aloadN hx hb hd hl k
          · have hl : ls[a]? = some (.val (.ref y)) := by rw [← e1]; exact hl
            have k : W p l e R s mM args below meth c H locs (h.2.2.2.2.1 - hS.2.2.2.2.1) (h.2.2.2.2.2 - hS.2.2.2.2.2) QF (F0 mM (pc + 2) ls (.ref y :: st.map (ax_cv ρ))) := by rw [← e1]; exact k
            exact lv_aload hx hb hd hl k
theorem ax_s3 (X : ax_cx p l e R s mM args below meth c D dA Hb h0 ro d m hF hS) {nx a b : Nat} {n : Int32} {pc : Nat} {L : AL} {st : List AV} {h : AH} (hd : decode (ax_bc m) pc = .ok (ax_enc pc (3, nx, a, b, n), nx - pc)) (hs : ax_side m pc (3, nx, a, b, n) = true) (ho : ax_op (ax_call d) (ax_st (3, nx, a, b, n) m L st h) (ax_gd p l e R s mM args below meth c QF D dA Hb h0 ro ρ0 hF hS m) Q0) : ax_gd p l e R s mM args below meth c QF D dA Hb h0 ro ρ0 hF hS m (m, pc, L, st) h := by
  obtain ⟨hx, hb, hml, hown, hts, henv, hnm, hsb, hrm, hm⟩ := X
  change ax_op (ax_call d) (st_store m nx a b L st h) (ax_gd p l e R s mM args below meth c QF D dA Hb h0 ro ρ0 hF hS m) Q0 at ho
  match st, ho with
  | v :: st, ho =>
    unfold st_store at ho
    cases ht : Nat.beq (ax_tg v) (b / 2) with
    | false =>
      simp only [ht, cond_false] at ho
      exact ho.elim
    | true =>
      simp only [ht, cond_true] at ho
      have ho : ax_gd p l e R s mM args below meth c QF D dA Hb h0 ro ρ0 hF hS m (m, nx, cond (Nat.beq (b / 2) 1) (ax_ls2 L a v) (ax_ls1 L a v), st) h := ho
      refine ⟨rfl, ho.2.1, fun ρ H locs ls S => ?_⟩
      obtain ⟨S1, S2, S3, S4, S5, S6, S7⟩ := S
      obtain ⟨hv, T5⟩ := ax_fm1 S5
      have ht := Nat.eq_of_beq_eq_true ht
      simp only [ax_side, Bool.and_eq_true] at hs
      have hb6 : b < 6 := Nat.le_of_ble_eq_true hs.1
      have al1 : ∀ i w, ax_lget (ax_ls1 L a v) i = some w → ax_alive h w := fun i w hi => by
        rcases ax_ls1_get L a v i w hi with ⟨-, rfl⟩ | ⟨-, h2, -⟩
        · exact hv
        · exact S4 i w h2
      have al2 : ∀ i w, ax_lget (ax_ls2 L a v) i = some w → ax_alive h w := fun i w hi => by
        rcases ax_ls2_get L a v i w hi with ⟨-, rfl⟩ | ⟨-, -, h2, -⟩
        · exact hv
        · exact S4 i w h2
      match b, hb6, hd, hs, ht, ho with
      | 0, _, hd, hs, ht, ho =>
        obtain ⟨-, h1, h5⟩ := hs
        have h1 : (Nat.beq nx (pc + 1) && Nat.blt a 4) = true := h1
        rw [Bool.and_eq_true] at h1
        have h4 : a < 4 := Nat.le_of_ble_eq_true h1.2
        obtain rfl := ax_nxt h1.1
        rw [Nat.add_sub_cancel_left] at hd
        have h5 : a + 1 < ax_mL m + 1 := Nat.le_of_ble_eq_true h5
        have h5 : a < ax_mL m := by omega
        match v, ht, hv, al1, al2, ho with
        | .inl x, _, hv, al1, al2, ho => exact lv_istore_n hx hb hd (by show a % 4 = a; omega) S6.has h5 rfl (fun ls' hl => ho.2.2 ρ H locs ls' ⟨S1, S2, S3, al1, T5, ax_lrel.st1 (w := .inl x) hl, S7⟩)
        | .inr (.inl x), ht, _, _, _, _ => exact absurd (show (1 : Nat) = 0 from ht) (by decide)
        | .inr (.inr x), ht, _, _, _, _ => exact absurd (show (2 : Nat) = 0 from ht) (by decide)
      | 1, _, hd, hs, ht, ho =>
        obtain ⟨-, h1, h5⟩ := hs
        have h1 : Nat.beq nx (pc + 2) = true := h1
        obtain rfl := ax_nxt h1
        rw [Nat.add_sub_cancel_left] at hd
        have h5 : a + 1 < ax_mL m + 1 := Nat.le_of_ble_eq_true h5
        have h5 : a < ax_mL m := by omega
        match v, ht, hv, al1, al2, ho with
        | .inl x, _, hv, al1, al2, ho => exact lv_istore hx hb hd S6.has h5 rfl (fun ls' hl => ho.2.2 ρ H locs ls' ⟨S1, S2, S3, al1, T5, ax_lrel.st1 (w := .inl x) hl, S7⟩)
        | .inr (.inl x), ht, _, _, _, _ => exact absurd (show (1 : Nat) = 0 from ht) (by decide)
        | .inr (.inr x), ht, _, _, _, _ => exact absurd (show (2 : Nat) = 0 from ht) (by decide)
      | 2, _, hd, hs, ht, ho =>
        obtain ⟨-, h1, h5⟩ := hs
        have h1 : (Nat.beq nx (pc + 1) && Nat.blt a 4) = true := h1
        rw [Bool.and_eq_true] at h1
        have h4 : a < 4 := Nat.le_of_ble_eq_true h1.2
        obtain rfl := ax_nxt h1.1
        rw [Nat.add_sub_cancel_left] at hd
        have h5 : a + 1 < ax_mL m := Nat.le_of_ble_eq_true h5
        match v, ht, hv, al1, al2, ho with
        | .inl x, ht, _, _, _, _ => exact absurd (show (0 : Nat) = 1 from ht) (by decide)
        | .inr (.inl x), _, hv, al1, al2, ho => exact lv_lstore_n hx hb hd (by show a % 4 = a; omega) S6.has h5 rfl (fun ls' hl => ho.2.2 ρ H locs ls' ⟨S1, S2, S3, al2, T5, ax_lrel.st2 (w := .inr (.inl x)) hl, S7⟩)
        | .inr (.inr x), ht, _, _, _, _ => exact absurd (show (2 : Nat) = 1 from ht) (by decide)
      | 3, _, hd, hs, ht, ho =>
        obtain ⟨-, h1, h5⟩ := hs
        have h1 : Nat.beq nx (pc + 2) = true := h1
        obtain rfl := ax_nxt h1
        rw [Nat.add_sub_cancel_left] at hd
        have h5 : a + 1 < ax_mL m := Nat.le_of_ble_eq_true h5
        match v, ht, hv, al1, al2, ho with
        | .inl x, ht, _, _, _, _ => exact absurd (show (0 : Nat) = 1 from ht) (by decide)
        | .inr (.inl x), _, hv, al1, al2, ho => exact lv_lstore hx hb hd S6.has h5 rfl (fun ls' hl => ho.2.2 ρ H locs ls' ⟨S1, S2, S3, al2, T5, ax_lrel.st2 (w := .inr (.inl x)) hl, S7⟩)
        | .inr (.inr x), ht, _, _, _, _ => exact absurd (show (2 : Nat) = 1 from ht) (by decide)
      | 4, _, hd, hs, ht, ho =>
        obtain ⟨-, h1, h5⟩ := hs
        have h1 : (Nat.beq nx (pc + 1) && Nat.blt a 4) = true := h1
        rw [Bool.and_eq_true] at h1
        have h4 : a < 4 := Nat.le_of_ble_eq_true h1.2
        obtain rfl := ax_nxt h1.1
        rw [Nat.add_sub_cancel_left] at hd
        have h5 : a + 1 < ax_mL m + 1 := Nat.le_of_ble_eq_true h5
        have h5 : a < ax_mL m := by omega
        match v, ht, hv, al1, al2, ho with
        | .inl x, ht, _, _, _, _ => exact absurd (show (0 : Nat) = 2 from ht) (by decide)
        | .inr (.inl x), ht, _, _, _, _ => exact absurd (show (1 : Nat) = 2 from ht) (by decide)
        | .inr (.inr x), _, hv, al1, al2, ho =>
          have go : ∀ ls', lv_has ls' (ax_mL m) ((a, ax_rv ρ x) :: (ax_lpairs ρ L).filter (fun q => !(q.1 == a) && !(q.1 + 1 == a && q.2.category == 2))) → W p l e R s mM args below meth c H locs (h.2.2.2.2.1 - hS.2.2.2.2.1) (h.2.2.2.2.2 - hS.2.2.2.2.2) QF (F0 mM (pc + 1) ls' (st.map (ax_cv ρ))) := fun ls' hl => ho.2.2 ρ H locs ls' ⟨S1, S2, S3, al1, T5, ax_lrel.st1 (w := .inr (.inr x)) hl, S7⟩
          change W p l e R s mM args below meth c H locs (h.2.2.2.2.1 - hS.2.2.2.2.1) (h.2.2.2.2.2 - hS.2.2.2.2.2) QF (F0 mM pc ls (ax_rv ρ x :: st.map (ax_cv ρ)))
          rcases ax_rv_cases (ρ := ρ) x with e1 | ⟨y, e1⟩
          · rw [e1] at go ⊢
            exact lv_astore_nN hx hb hd (by show a % 4 = a; omega) S6.has h5 rfl go
          · rw [e1] at go ⊢
            exact lv_astore_n hx hb hd (by show a % 4 = a; omega) S6.has h5 rfl go
      | 5, _, hd, hs, ht, ho =>
        obtain ⟨-, h1, h5⟩ := hs
        have h1 : Nat.beq nx (pc + 2) = true := h1
        obtain rfl := ax_nxt h1
        rw [Nat.add_sub_cancel_left] at hd
        have h5 : a + 1 < ax_mL m + 1 := Nat.le_of_ble_eq_true h5
        have h5 : a < ax_mL m := by omega
        match v, ht, hv, al1, al2, ho with
        | .inl x, ht, _, _, _, _ => exact absurd (show (0 : Nat) = 2 from ht) (by decide)
        | .inr (.inl x), ht, _, _, _, _ => exact absurd (show (1 : Nat) = 2 from ht) (by decide)
        | .inr (.inr x), _, hv, al1, al2, ho =>
          have go : ∀ ls', lv_has ls' (ax_mL m) ((a, ax_rv ρ x) :: (ax_lpairs ρ L).filter (fun q => !(q.1 == a) && !(q.1 + 1 == a && q.2.category == 2))) → W p l e R s mM args below meth c H locs (h.2.2.2.2.1 - hS.2.2.2.2.1) (h.2.2.2.2.2 - hS.2.2.2.2.2) QF (F0 mM (pc + 2) ls' (st.map (ax_cv ρ))) := fun ls' hl => ho.2.2 ρ H locs ls' ⟨S1, S2, S3, al1, T5, ax_lrel.st1 (w := .inr (.inr x)) hl, S7⟩
          change W p l e R s mM args below meth c H locs (h.2.2.2.2.1 - hS.2.2.2.2.1) (h.2.2.2.2.2 - hS.2.2.2.2.2) QF (F0 mM pc ls (ax_rv ρ x :: st.map (ax_cv ρ)))
          rcases ax_rv_cases (ρ := ρ) x with e1 | ⟨y, e1⟩
          · rw [e1] at go ⊢
            exact lv_astoreN hx hb hd S6.has h5 rfl go
          · rw [e1] at go ⊢
            exact lv_astore hx hb hd S6.has h5 rfl go
theorem ax_s4 (X : ax_cx p l e R s mM args below meth c D dA Hb h0 ro d m hF hS) {nx a b : Nat} {n : Int32} {pc : Nat} {L : AL} {st : List AV} {h : AH} (hd : decode (ax_bc m) pc = .ok (ax_enc pc (4, nx, a, b, n), nx - pc)) (hs : ax_side m pc (4, nx, a, b, n) = true) (ho : ax_op (ax_call d) (ax_st (4, nx, a, b, n) m L st h) (ax_gd p l e R s mM args below meth c QF D dA Hb h0 ro ρ0 hF hS m) Q0) : ax_gd p l e R s mM args below meth c QF D dA Hb h0 ro ρ0 hF hS m (m, pc, L, st) h := by
  obtain ⟨hx, hb, hml, hown, hts, henv, hnm, hsb, hrm, hm⟩ := X
  change ax_op (ax_call d) (st_iinc m nx a n L st h) (ax_gd p l e R s mM args below meth c QF D dA Hb h0 ro ρ0 hF hS m) Q0 at ho
  unfold st_iinc at ho
  simp only [ax_side, Bool.and_eq_true, decide_eq_true_eq] at hs
  obtain ⟨h1, h2, h3⟩ := hs
  obtain rfl := ax_nxt h1
  rw [Nat.add_sub_cancel_left] at hd
  match hv : ax_lget L a, ho with
  | some (.inl x), ho =>
    have ho : ax_gd p l e R s mM args below meth c QF D dA Hb h0 ro ρ0 hF hS m (m, pc + 3, ax_ls1 L a (.inl (x + n)), st) h := ho
    refine ⟨rfl, ho.2.1, fun ρ H locs ls S => ?_⟩
    obtain ⟨S1, S2, S3, S4, S5, S6, S7⟩ := S
    obtain ⟨k, hk⟩ := List.getElem?_of_mem (ax_lpairs_mem (ρ := ρ) hv)
    refine lv_iinc hx hb hd S6.has hk (by rw [h3]) (Nat.le_of_ble_eq_true h2) rfl (fun ls' hl => ho.2.2 ρ H locs ls' ⟨S1, S2, S3, fun i w hi => ?_, S5, ax_lrel.st1 (w := .inl (x + n)) hl, S7⟩)
    rcases ax_ls1_get L a _ i w hi with ⟨-, rfl⟩ | ⟨-, h2, -⟩
    · exact ax_al_i
    · exact S4 i w h2
theorem ax_s5 (X : ax_cx p l e R s mM args below meth c D dA Hb h0 ro d m hF hS) {nx a b : Nat} {n : Int32} {pc : Nat} {L : AL} {st : List AV} {h : AH} (hd : decode (ax_bc m) pc = .ok (ax_enc pc (5, nx, a, b, n), nx - pc)) (hs : ax_side m pc (5, nx, a, b, n) = true) (ho : ax_op (ax_call d) (ax_st (5, nx, a, b, n) m L st h) (ax_gd p l e R s mM args below meth c QF D dA Hb h0 ro ρ0 hF hS m) Q0) : ax_gd p l e R s mM args below meth c QF D dA Hb h0 ro ρ0 hF hS m (m, pc, L, st) h := by
  obtain ⟨hx, hb, hml, hown, hts, henv, hnm, hsb, hrm, hm⟩ := X
  change ax_op (ax_call d) (st_ib m nx b L st h) (ax_gd p l e R s mM args below meth c QF D dA Hb h0 ro ρ0 hF hS m) Q0 at ho
  simp only [ax_side, Bool.and_eq_true] at hs
  obtain ⟨h1, h2⟩ := hs
  obtain rfl := ax_nxt h1
  rw [Nat.add_sub_cancel_left] at hd
  have hb9 : b < 8 := Nat.le_of_ble_eq_true h2
  match st, ho with
  | .inl y :: .inl x :: st, ho =>
    have ho : ax_gd p l e R s mM args below meth c QF D dA Hb h0 ro ρ0 hF hS m (m, pc + 1, L, .inl (ax_ib b x y) :: st) h := ho
    refine ⟨rfl, ho.2.1, fun ρ H locs ls S => ?_⟩
    obtain ⟨S1, S2, S3, S4, S5, S6⟩ := S
    have k := ho.2.2 ρ H locs ls ⟨S1, S2, S3, S4, ax_fm ax_al_i (ax_fm1 (ax_fm1 S5).2).2, S6⟩
    match b, hb9, hd, k with
    | 0, _, hd, k => exact lv_iadd hx hb hd k
    | 1, _, hd, k => exact lv_isub hx hb hd k
    | 2, _, hd, k => exact lv_imul hx hb hd k
    | 3, _, hd, k => exact lv_iand hx hb hd k
    | 4, _, hd, k => exact lv_ior hx hb hd k
    | 5, _, hd, k => exact lv_ishl hx hb hd k
    | 6, _, hd, k => exact lv_ishr hx hb hd k
    | 7, _, hd, k => exact lv_iushr hx hb hd rfl k
theorem ax_s6 (X : ax_cx p l e R s mM args below meth c D dA Hb h0 ro d m hF hS) {nx a b : Nat} {n : Int32} {pc : Nat} {L : AL} {st : List AV} {h : AH} (hd : decode (ax_bc m) pc = .ok (ax_enc pc (6, nx, a, b, n), nx - pc)) (hs : ax_side m pc (6, nx, a, b, n) = true) (ho : ax_op (ax_call d) (ax_st (6, nx, a, b, n) m L st h) (ax_gd p l e R s mM args below meth c QF D dA Hb h0 ro ρ0 hF hS m) Q0) : ax_gd p l e R s mM args below meth c QF D dA Hb h0 ro ρ0 hF hS m (m, pc, L, st) h := by
  obtain ⟨hx, hb, hml, hown, hts, henv, hnm, hsb, hrm, hm⟩ := X
  change ax_op (ax_call d) (st_id m nx b L st h) (ax_gd p l e R s mM args below meth c QF D dA Hb h0 ro ρ0 hF hS m) Q0 at ho
  simp only [ax_side, Bool.and_eq_true] at hs
  obtain ⟨h1, h2⟩ := hs
  obtain rfl := ax_nxt h1
  rw [Nat.add_sub_cancel_left] at hd
  have hb9 : b < 2 := Nat.le_of_ble_eq_true h2
  match st, ho with
  | .inl y :: .inl x :: st, ho =>
    have ho : ¬ y = 0 ∧ ax_gd p l e R s mM args below meth c QF D dA Hb h0 ro ρ0 hF hS m (m, pc + 1, L, .inl (cond (Nat.beq b 0) (x / y) (x - x / y * y)) :: st) h := ho
    obtain ⟨hy, ho⟩ := ho
    refine ⟨rfl, ho.2.1, fun ρ H locs ls S => ?_⟩
    obtain ⟨S1, S2, S3, S4, S5, S6⟩ := S
    have k := ho.2.2 ρ H locs ls ⟨S1, S2, S3, S4, ax_fm ax_al_i (ax_fm1 (ax_fm1 S5).2).2, S6⟩
    match b, hb9, hd, k with
    | 0, _, hd, k => exact lv_idiv hx hb hd hy k
    | 1, _, hd, k => exact lv_irem hx hb hd hy k
theorem ax_s7 (X : ax_cx p l e R s mM args below meth c D dA Hb h0 ro d m hF hS) {nx a b : Nat} {n : Int32} {pc : Nat} {L : AL} {st : List AV} {h : AH} (hd : decode (ax_bc m) pc = .ok (ax_enc pc (7, nx, a, b, n), nx - pc)) (hs : ax_side m pc (7, nx, a, b, n) = true) (ho : ax_op (ax_call d) (ax_st (7, nx, a, b, n) m L st h) (ax_gd p l e R s mM args below meth c QF D dA Hb h0 ro ρ0 hF hS m) Q0) : ax_gd p l e R s mM args below meth c QF D dA Hb h0 ro ρ0 hF hS m (m, pc, L, st) h := by
  obtain ⟨hx, hb, hml, hown, hts, henv, hnm, hsb, hrm, hm⟩ := X
  change ax_op (ax_call d) (st_lb m nx b L st h) (ax_gd p l e R s mM args below meth c QF D dA Hb h0 ro ρ0 hF hS m) Q0 at ho
  simp only [ax_side, Bool.and_eq_true] at hs
  obtain ⟨h1, h2⟩ := hs
  obtain rfl := ax_nxt h1
  rw [Nat.add_sub_cancel_left] at hd
  have hb9 : b < 5 := Nat.le_of_ble_eq_true h2
  match st, ho with
  | .inr (.inl y) :: .inr (.inl x) :: st, ho =>
    have ho : ax_gd p l e R s mM args below meth c QF D dA Hb h0 ro ρ0 hF hS m (m, pc + 1, L, .inr (.inl (ax_lb b x y)) :: st) h := ho
    refine ⟨rfl, ho.2.1, fun ρ H locs ls S => ?_⟩
    obtain ⟨S1, S2, S3, S4, S5, S6⟩ := S
    have k := ho.2.2 ρ H locs ls ⟨S1, S2, S3, S4, ax_fm ax_al_l (ax_fm1 (ax_fm1 S5).2).2, S6⟩
    match b, hb9, hd, k with
    | 0, _, hd, k => exact lv_ladd hx hb hd k
    | 1, _, hd, k => exact lv_lsub hx hb hd k
    | 2, _, hd, k => exact lv_lmul hx hb hd k
    | 3, _, hd, k => exact lv_land hx hb hd k
    | 4, _, hd, k => exact lv_lor hx hb hd k
theorem ax_s8 (X : ax_cx p l e R s mM args below meth c D dA Hb h0 ro d m hF hS) {nx a b : Nat} {n : Int32} {pc : Nat} {L : AL} {st : List AV} {h : AH} (hd : decode (ax_bc m) pc = .ok (ax_enc pc (8, nx, a, b, n), nx - pc)) (hs : ax_side m pc (8, nx, a, b, n) = true) (ho : ax_op (ax_call d) (ax_st (8, nx, a, b, n) m L st h) (ax_gd p l e R s mM args below meth c QF D dA Hb h0 ro ρ0 hF hS m) Q0) : ax_gd p l e R s mM args below meth c QF D dA Hb h0 ro ρ0 hF hS m (m, pc, L, st) h := by
  obtain ⟨hx, hb, hml, hown, hts, henv, hnm, hsb, hrm, hm⟩ := X
  change ax_op (ax_call d) (st_ld m nx b L st h) (ax_gd p l e R s mM args below meth c QF D dA Hb h0 ro ρ0 hF hS m) Q0 at ho
  simp only [ax_side, Bool.and_eq_true] at hs
  obtain ⟨h1, h2⟩ := hs
  obtain rfl := ax_nxt h1
  rw [Nat.add_sub_cancel_left] at hd
  have hb9 : b < 2 := Nat.le_of_ble_eq_true h2
  match st, ho with
  | .inr (.inl y) :: .inr (.inl x) :: st, ho =>
    have ho : ¬ y = 0 ∧ ax_gd p l e R s mM args below meth c QF D dA Hb h0 ro ρ0 hF hS m (m, pc + 1, L, .inr (.inl (cond (Nat.beq b 0) (x / y) (x - x / y * y))) :: st) h := ho
    obtain ⟨hy, ho⟩ := ho
    refine ⟨rfl, ho.2.1, fun ρ H locs ls S => ?_⟩
    obtain ⟨S1, S2, S3, S4, S5, S6⟩ := S
    have k := ho.2.2 ρ H locs ls ⟨S1, S2, S3, S4, ax_fm ax_al_l (ax_fm1 (ax_fm1 S5).2).2, S6⟩
    match b, hb9, hd, k with
    | 0, _, hd, k => exact lv_ldiv hx hb hd hy k
    | 1, _, hd, k => exact lv_lrem hx hb hd hy k
theorem ax_s9 (X : ax_cx p l e R s mM args below meth c D dA Hb h0 ro d m hF hS) {nx a b : Nat} {n : Int32} {pc : Nat} {L : AL} {st : List AV} {h : AH} (hd : decode (ax_bc m) pc = .ok (ax_enc pc (9, nx, a, b, n), nx - pc)) (hs : ax_side m pc (9, nx, a, b, n) = true) (ho : ax_op (ax_call d) (ax_st (9, nx, a, b, n) m L st h) (ax_gd p l e R s mM args below meth c QF D dA Hb h0 ro ρ0 hF hS m) Q0) : ax_gd p l e R s mM args below meth c QF D dA Hb h0 ro ρ0 hF hS m (m, pc, L, st) h := by
  obtain ⟨hx, hb, hml, hown, hts, henv, hnm, hsb, hrm, hm⟩ := X
  change ax_op (ax_call d) (st_iu m nx b L st h) (ax_gd p l e R s mM args below meth c QF D dA Hb h0 ro ρ0 hF hS m) Q0 at ho
  simp only [ax_side, Bool.and_eq_true] at hs
  obtain ⟨h1, h2⟩ := hs
  obtain rfl := ax_nxt h1
  rw [Nat.add_sub_cancel_left] at hd
  have hb9 : b < 3 := Nat.le_of_ble_eq_true h2
  match st, ho with
  | .inl x :: st, ho =>
    have ho : ax_gd p l e R s mM args below meth c QF D dA Hb h0 ro ρ0 hF hS m (m, pc + 1, L, .inl (ax_iu b x) :: st) h := ho
    refine ⟨rfl, ho.2.1, fun ρ H locs ls S => ?_⟩
    obtain ⟨S1, S2, S3, S4, S5, S6⟩ := S
    have k := ho.2.2 ρ H locs ls ⟨S1, S2, S3, S4, ax_fm ax_al_i (ax_fm1 S5).2, S6⟩
    match b, hb9, hd, k with
    | 0, _, hd, k => exact lv_ineg hx hb hd k
    | 1, _, hd, k => exact lv_i2b hx hb hd rfl k
    | 2, _, hd, k => exact lv_i2c hx hb hd rfl k
theorem ax_s10 (X : ax_cx p l e R s mM args below meth c D dA Hb h0 ro d m hF hS) {nx a b : Nat} {n : Int32} {pc : Nat} {L : AL} {st : List AV} {h : AH} (hd : decode (ax_bc m) pc = .ok (ax_enc pc (10, nx, a, b, n), nx - pc)) (hs : ax_side m pc (10, nx, a, b, n) = true) (ho : ax_op (ax_call d) (ax_st (10, nx, a, b, n) m L st h) (ax_gd p l e R s mM args below meth c QF D dA Hb h0 ro ρ0 hF hS m) Q0) : ax_gd p l e R s mM args below meth c QF D dA Hb h0 ro ρ0 hF hS m (m, pc, L, st) h := by
  obtain ⟨hx, hb, hml, hown, hts, henv, hnm, hsb, hrm, hm⟩ := X
  change ax_op (ax_call d) (st_i2l m nx L st h) (ax_gd p l e R s mM args below meth c QF D dA Hb h0 ro ρ0 hF hS m) Q0 at ho
  obtain rfl := ax_nxt hs
  rw [Nat.add_sub_cancel_left] at hd
  match st, ho with
  | .inl x :: st, ho =>
    have ho : ax_gd p l e R s mM args below meth c QF D dA Hb h0 ro ρ0 hF hS m (m, pc + 1, L, .inr (.inl x.toInt64) :: st) h := ho
    refine ⟨rfl, ho.2.1, fun ρ H locs ls S => ?_⟩
    obtain ⟨S1, S2, S3, S4, S5, S6⟩ := S
    have k := ho.2.2 ρ H locs ls ⟨S1, S2, S3, S4, ax_fm ax_al_l (ax_fm1 S5).2, S6⟩
    exact lv_i2l hx hb hd rfl k
theorem ax_s11 (X : ax_cx p l e R s mM args below meth c D dA Hb h0 ro d m hF hS) {nx a b : Nat} {n : Int32} {pc : Nat} {L : AL} {st : List AV} {h : AH} (hd : decode (ax_bc m) pc = .ok (ax_enc pc (11, nx, a, b, n), nx - pc)) (hs : ax_side m pc (11, nx, a, b, n) = true) (ho : ax_op (ax_call d) (ax_st (11, nx, a, b, n) m L st h) (ax_gd p l e R s mM args below meth c QF D dA Hb h0 ro ρ0 hF hS m) Q0) : ax_gd p l e R s mM args below meth c QF D dA Hb h0 ro ρ0 hF hS m (m, pc, L, st) h := by
  obtain ⟨hx, hb, hml, hown, hts, henv, hnm, hsb, hrm, hm⟩ := X
  change ax_op (ax_call d) (st_l2i m nx L st h) (ax_gd p l e R s mM args below meth c QF D dA Hb h0 ro ρ0 hF hS m) Q0 at ho
  obtain rfl := ax_nxt hs
  rw [Nat.add_sub_cancel_left] at hd
  match st, ho with
  | .inr (.inl x) :: st, ho =>
    have ho : ax_gd p l e R s mM args below meth c QF D dA Hb h0 ro ρ0 hF hS m (m, pc + 1, L, .inl x.toInt32 :: st) h := ho
    refine ⟨rfl, ho.2.1, fun ρ H locs ls S => ?_⟩
    obtain ⟨S1, S2, S3, S4, S5, S6⟩ := S
    have k := ho.2.2 ρ H locs ls ⟨S1, S2, S3, S4, ax_fm ax_al_i (ax_fm1 S5).2, S6⟩
    exact lv_l2i hx hb hd rfl k
theorem ax_s12 (X : ax_cx p l e R s mM args below meth c D dA Hb h0 ro d m hF hS) {nx a b : Nat} {n : Int32} {pc : Nat} {L : AL} {st : List AV} {h : AH} (hd : decode (ax_bc m) pc = .ok (ax_enc pc (12, nx, a, b, n), nx - pc)) (hs : ax_side m pc (12, nx, a, b, n) = true) (ho : ax_op (ax_call d) (ax_st (12, nx, a, b, n) m L st h) (ax_gd p l e R s mM args below meth c QF D dA Hb h0 ro ρ0 hF hS m) Q0) : ax_gd p l e R s mM args below meth c QF D dA Hb h0 ro ρ0 hF hS m (m, pc, L, st) h := by
  obtain ⟨hx, hb, hml, hown, hts, henv, hnm, hsb, hrm, hm⟩ := X
  change ax_op (ax_call d) (st_lcmp m nx L st h) (ax_gd p l e R s mM args below meth c QF D dA Hb h0 ro ρ0 hF hS m) Q0 at ho
  obtain rfl := ax_nxt hs
  rw [Nat.add_sub_cancel_left] at hd
  match st, ho with
  | .inr (.inl y) :: .inr (.inl x) :: st, ho =>
    have ho : ax_gd p l e R s mM args below meth c QF D dA Hb h0 ro ρ0 hF hS m (m, pc + 1, L, .inl (lg_cmp x y) :: st) h := ho
    refine ⟨rfl, ho.2.1, fun ρ H locs ls S => ?_⟩
    obtain ⟨S1, S2, S3, S4, S5, S6⟩ := S
    have k := ho.2.2 ρ H locs ls ⟨S1, S2, S3, S4, ax_fm ax_al_i (ax_fm1 (ax_fm1 S5).2).2, S6⟩
    exact W.lcmp hx hb hd k
theorem ax_s13 (X : ax_cx p l e R s mM args below meth c D dA Hb h0 ro d m hF hS) {nx a b : Nat} {n : Int32} {pc : Nat} {L : AL} {st : List AV} {h : AH} (hd : decode (ax_bc m) pc = .ok (ax_enc pc (13, nx, a, b, n), nx - pc)) (hs : ax_side m pc (13, nx, a, b, n) = true) (ho : ax_op (ax_call d) (ax_st (13, nx, a, b, n) m L st h) (ax_gd p l e R s mM args below meth c QF D dA Hb h0 ro ρ0 hF hS m) Q0) : ax_gd p l e R s mM args below meth c QF D dA Hb h0 ro ρ0 hF hS m (m, pc, L, st) h := by
  obtain ⟨hx, hb, hml, hown, hts, henv, hnm, hsb, hrm, hm⟩ := X
  change ax_op (ax_call d) (st_if m nx a b L st h) (ax_gd p l e R s mM args below meth c QF D dA Hb h0 ro ρ0 hF hS m) Q0 at ho
  simp only [ax_side, Bool.and_eq_true] at hs
  obtain ⟨h1, h2⟩ := hs
  obtain rfl := ax_nxt h1
  rw [Nat.add_sub_cancel_left] at hd
  have hb9 : b < 6 := Nat.le_of_ble_eq_true h2
  have hj : (pc : Int) + ((a : Int) - (pc : Int)) = (a : Int) := by omega
  match st, ho with
  | .inl x :: st, ho =>
    match b, hb9, hd, ho with
    | 0, _, hd, ho =>
      have ho : (x = 0 → ax_gd p l e R s mM args below meth c QF D dA Hb h0 ro ρ0 hF hS m (m, a, L, st) h) ∧ (¬ x = 0 → ax_gd p l e R s mM args below meth c QF D dA Hb h0 ro ρ0 hF hS m (m, pc + 3, L, st) h) := ho
      refine ⟨rfl, by by_cases q : x = 0; · exact (ho.1 q).2.1
                      · exact (ho.2 q).2.1, fun ρ H locs ls S => ?_⟩
      obtain ⟨S1, S2, S3, S4, S5, S6⟩ := S
      have k1 := fun q => (ho.1 q).2.2 ρ H locs ls ⟨S1, S2, S3, S4, (ax_fm1 S5).2, S6⟩
      have k2 := fun q => (ho.2 q).2.2 ρ H locs ls ⟨S1, S2, S3, S4, (ax_fm1 S5).2, S6⟩
      exact lv_if_eq hx hb hd hj k1 k2
    | 1, _, hd, ho =>
      have ho : (x = 0 → ax_gd p l e R s mM args below meth c QF D dA Hb h0 ro ρ0 hF hS m (m, pc + 3, L, st) h) ∧ (¬ x = 0 → ax_gd p l e R s mM args below meth c QF D dA Hb h0 ro ρ0 hF hS m (m, a, L, st) h) := ho
      refine ⟨rfl, by by_cases q : x = 0; · exact (ho.1 q).2.1
                      · exact (ho.2 q).2.1, fun ρ H locs ls S => ?_⟩
      obtain ⟨S1, S2, S3, S4, S5, S6⟩ := S
      have k1 := fun q => (ho.1 q).2.2 ρ H locs ls ⟨S1, S2, S3, S4, (ax_fm1 S5).2, S6⟩
      have k2 := fun q => (ho.2 q).2.2 ρ H locs ls ⟨S1, S2, S3, S4, (ax_fm1 S5).2, S6⟩
      exact lv_if_ne hx hb hd hj k2 k1
    | 2, _, hd, ho =>
      have ho : (x < 0 → ax_gd p l e R s mM args below meth c QF D dA Hb h0 ro ρ0 hF hS m (m, a, L, st) h) ∧ (¬ x < 0 → ax_gd p l e R s mM args below meth c QF D dA Hb h0 ro ρ0 hF hS m (m, pc + 3, L, st) h) := ho
      refine ⟨rfl, by by_cases q : x < 0; · exact (ho.1 q).2.1
                      · exact (ho.2 q).2.1, fun ρ H locs ls S => ?_⟩
      obtain ⟨S1, S2, S3, S4, S5, S6⟩ := S
      have k1 := fun q => (ho.1 q).2.2 ρ H locs ls ⟨S1, S2, S3, S4, (ax_fm1 S5).2, S6⟩
      have k2 := fun q => (ho.2 q).2.2 ρ H locs ls ⟨S1, S2, S3, S4, (ax_fm1 S5).2, S6⟩
      exact lv_if_lt hx hb hd hj k1 k2
    | 3, _, hd, ho =>
      have ho : (x < 0 → ax_gd p l e R s mM args below meth c QF D dA Hb h0 ro ρ0 hF hS m (m, pc + 3, L, st) h) ∧ (¬ x < 0 → ax_gd p l e R s mM args below meth c QF D dA Hb h0 ro ρ0 hF hS m (m, a, L, st) h) := ho
      refine ⟨rfl, by by_cases q : x < 0; · exact (ho.1 q).2.1
                      · exact (ho.2 q).2.1, fun ρ H locs ls S => ?_⟩
      obtain ⟨S1, S2, S3, S4, S5, S6⟩ := S
      have k1 := fun q => (ho.1 q).2.2 ρ H locs ls ⟨S1, S2, S3, S4, (ax_fm1 S5).2, S6⟩
      have k2 := fun q => (ho.2 q).2.2 ρ H locs ls ⟨S1, S2, S3, S4, (ax_fm1 S5).2, S6⟩
      exact lv_if_ge hx hb hd hj (fun q => k2 (Int32.not_lt.mpr q)) (fun q => k1 (Int32.not_le.mp q))
    | 4, _, hd, ho =>
      have ho : (0 < x → ax_gd p l e R s mM args below meth c QF D dA Hb h0 ro ρ0 hF hS m (m, a, L, st) h) ∧ (¬ 0 < x → ax_gd p l e R s mM args below meth c QF D dA Hb h0 ro ρ0 hF hS m (m, pc + 3, L, st) h) := ho
      refine ⟨rfl, by by_cases q : 0 < x; · exact (ho.1 q).2.1
                      · exact (ho.2 q).2.1, fun ρ H locs ls S => ?_⟩
      obtain ⟨S1, S2, S3, S4, S5, S6⟩ := S
      have k1 := fun q => (ho.1 q).2.2 ρ H locs ls ⟨S1, S2, S3, S4, (ax_fm1 S5).2, S6⟩
      have k2 := fun q => (ho.2 q).2.2 ρ H locs ls ⟨S1, S2, S3, S4, (ax_fm1 S5).2, S6⟩
      exact lv_if_gt hx hb hd hj k1 k2
    | 5, _, hd, ho =>
      have ho : (0 < x → ax_gd p l e R s mM args below meth c QF D dA Hb h0 ro ρ0 hF hS m (m, pc + 3, L, st) h) ∧ (¬ 0 < x → ax_gd p l e R s mM args below meth c QF D dA Hb h0 ro ρ0 hF hS m (m, a, L, st) h) := ho
      refine ⟨rfl, by by_cases q : 0 < x; · exact (ho.1 q).2.1
                      · exact (ho.2 q).2.1, fun ρ H locs ls S => ?_⟩
      obtain ⟨S1, S2, S3, S4, S5, S6⟩ := S
      have k1 := fun q => (ho.1 q).2.2 ρ H locs ls ⟨S1, S2, S3, S4, (ax_fm1 S5).2, S6⟩
      have k2 := fun q => (ho.2 q).2.2 ρ H locs ls ⟨S1, S2, S3, S4, (ax_fm1 S5).2, S6⟩
      exact lv_if_le hx hb hd hj (fun q => k2 (Int32.not_lt.mpr q)) (fun q => k1 (Int32.not_le.mp q))
theorem ax_s14 (X : ax_cx p l e R s mM args below meth c D dA Hb h0 ro d m hF hS) {nx a b : Nat} {n : Int32} {pc : Nat} {L : AL} {st : List AV} {h : AH} (hd : decode (ax_bc m) pc = .ok (ax_enc pc (14, nx, a, b, n), nx - pc)) (hs : ax_side m pc (14, nx, a, b, n) = true) (ho : ax_op (ax_call d) (ax_st (14, nx, a, b, n) m L st h) (ax_gd p l e R s mM args below meth c QF D dA Hb h0 ro ρ0 hF hS m) Q0) : ax_gd p l e R s mM args below meth c QF D dA Hb h0 ro ρ0 hF hS m (m, pc, L, st) h := by
  obtain ⟨hx, hb, hml, hown, hts, henv, hnm, hsb, hrm, hm⟩ := X
  change ax_op (ax_call d) (st_ic m nx a b L st h) (ax_gd p l e R s mM args below meth c QF D dA Hb h0 ro ρ0 hF hS m) Q0 at ho
  simp only [ax_side, Bool.and_eq_true] at hs
  obtain ⟨h1, h2⟩ := hs
  obtain rfl := ax_nxt h1
  rw [Nat.add_sub_cancel_left] at hd
  have hb9 : b < 6 := Nat.le_of_ble_eq_true h2
  have hj : (pc : Int) + ((a : Int) - (pc : Int)) = (a : Int) := by omega
  match st, ho with
  | .inl y :: .inl x :: st, ho =>
    match b, hb9, hd, ho with
    | 0, _, hd, ho =>
      have ho : (x = y → ax_gd p l e R s mM args below meth c QF D dA Hb h0 ro ρ0 hF hS m (m, a, L, st) h) ∧ (¬ x = y → ax_gd p l e R s mM args below meth c QF D dA Hb h0 ro ρ0 hF hS m (m, pc + 3, L, st) h) := ho
      refine ⟨rfl, by by_cases q : x = y; · exact (ho.1 q).2.1
                      · exact (ho.2 q).2.1, fun ρ H locs ls S => ?_⟩
      obtain ⟨S1, S2, S3, S4, S5, S6⟩ := S
      have k1 := fun q => (ho.1 q).2.2 ρ H locs ls ⟨S1, S2, S3, S4, (ax_fm1 (ax_fm1 S5).2).2, S6⟩
      have k2 := fun q => (ho.2 q).2.2 ρ H locs ls ⟨S1, S2, S3, S4, (ax_fm1 (ax_fm1 S5).2).2, S6⟩
      exact lv_icmp_eq hx hb hd hj k1 k2
    | 1, _, hd, ho =>
      have ho : (x = y → ax_gd p l e R s mM args below meth c QF D dA Hb h0 ro ρ0 hF hS m (m, pc + 3, L, st) h) ∧ (¬ x = y → ax_gd p l e R s mM args below meth c QF D dA Hb h0 ro ρ0 hF hS m (m, a, L, st) h) := ho
      refine ⟨rfl, by by_cases q : x = y; · exact (ho.1 q).2.1
                      · exact (ho.2 q).2.1, fun ρ H locs ls S => ?_⟩
      obtain ⟨S1, S2, S3, S4, S5, S6⟩ := S
      have k1 := fun q => (ho.1 q).2.2 ρ H locs ls ⟨S1, S2, S3, S4, (ax_fm1 (ax_fm1 S5).2).2, S6⟩
      have k2 := fun q => (ho.2 q).2.2 ρ H locs ls ⟨S1, S2, S3, S4, (ax_fm1 (ax_fm1 S5).2).2, S6⟩
      exact lv_icmp_ne hx hb hd hj k2 k1
    | 2, _, hd, ho =>
      have ho : (x < y → ax_gd p l e R s mM args below meth c QF D dA Hb h0 ro ρ0 hF hS m (m, a, L, st) h) ∧ (¬ x < y → ax_gd p l e R s mM args below meth c QF D dA Hb h0 ro ρ0 hF hS m (m, pc + 3, L, st) h) := ho
      refine ⟨rfl, by by_cases q : x < y; · exact (ho.1 q).2.1
                      · exact (ho.2 q).2.1, fun ρ H locs ls S => ?_⟩
      obtain ⟨S1, S2, S3, S4, S5, S6⟩ := S
      have k1 := fun q => (ho.1 q).2.2 ρ H locs ls ⟨S1, S2, S3, S4, (ax_fm1 (ax_fm1 S5).2).2, S6⟩
      have k2 := fun q => (ho.2 q).2.2 ρ H locs ls ⟨S1, S2, S3, S4, (ax_fm1 (ax_fm1 S5).2).2, S6⟩
      exact lv_icmp_lt hx hb hd hj k1 k2
    | 3, _, hd, ho =>
      have ho : (x < y → ax_gd p l e R s mM args below meth c QF D dA Hb h0 ro ρ0 hF hS m (m, pc + 3, L, st) h) ∧ (¬ x < y → ax_gd p l e R s mM args below meth c QF D dA Hb h0 ro ρ0 hF hS m (m, a, L, st) h) := ho
      refine ⟨rfl, by by_cases q : x < y; · exact (ho.1 q).2.1
                      · exact (ho.2 q).2.1, fun ρ H locs ls S => ?_⟩
      obtain ⟨S1, S2, S3, S4, S5, S6⟩ := S
      have k1 := fun q => (ho.1 q).2.2 ρ H locs ls ⟨S1, S2, S3, S4, (ax_fm1 (ax_fm1 S5).2).2, S6⟩
      have k2 := fun q => (ho.2 q).2.2 ρ H locs ls ⟨S1, S2, S3, S4, (ax_fm1 (ax_fm1 S5).2).2, S6⟩
      exact lv_icmp_ge hx hb hd hj (fun q => k2 (Int32.not_lt.mpr q)) (fun q => k1 (Int32.not_le.mp q))
    | 4, _, hd, ho =>
      have ho : (y < x → ax_gd p l e R s mM args below meth c QF D dA Hb h0 ro ρ0 hF hS m (m, a, L, st) h) ∧ (¬ y < x → ax_gd p l e R s mM args below meth c QF D dA Hb h0 ro ρ0 hF hS m (m, pc + 3, L, st) h) := ho
      refine ⟨rfl, by by_cases q : y < x; · exact (ho.1 q).2.1
                      · exact (ho.2 q).2.1, fun ρ H locs ls S => ?_⟩
      obtain ⟨S1, S2, S3, S4, S5, S6⟩ := S
      have k1 := fun q => (ho.1 q).2.2 ρ H locs ls ⟨S1, S2, S3, S4, (ax_fm1 (ax_fm1 S5).2).2, S6⟩
      have k2 := fun q => (ho.2 q).2.2 ρ H locs ls ⟨S1, S2, S3, S4, (ax_fm1 (ax_fm1 S5).2).2, S6⟩
      exact lv_icmp_gt hx hb hd hj k1 k2
    | 5, _, hd, ho =>
      have ho : (y < x → ax_gd p l e R s mM args below meth c QF D dA Hb h0 ro ρ0 hF hS m (m, pc + 3, L, st) h) ∧ (¬ y < x → ax_gd p l e R s mM args below meth c QF D dA Hb h0 ro ρ0 hF hS m (m, a, L, st) h) := ho
      refine ⟨rfl, by by_cases q : y < x; · exact (ho.1 q).2.1
                      · exact (ho.2 q).2.1, fun ρ H locs ls S => ?_⟩
      obtain ⟨S1, S2, S3, S4, S5, S6⟩ := S
      have k1 := fun q => (ho.1 q).2.2 ρ H locs ls ⟨S1, S2, S3, S4, (ax_fm1 (ax_fm1 S5).2).2, S6⟩
      have k2 := fun q => (ho.2 q).2.2 ρ H locs ls ⟨S1, S2, S3, S4, (ax_fm1 (ax_fm1 S5).2).2, S6⟩
      exact lv_icmp_le hx hb hd hj (fun q => k2 (Int32.not_lt.mpr q)) (fun q => k1 (Int32.not_le.mp q))
theorem ax_s15 (X : ax_cx p l e R s mM args below meth c D dA Hb h0 ro d m hF hS) {nx a b : Nat} {n : Int32} {pc : Nat} {L : AL} {st : List AV} {h : AH} (hd : decode (ax_bc m) pc = .ok (ax_enc pc (15, nx, a, b, n), nx - pc)) (hs : ax_side m pc (15, nx, a, b, n) = true) (ho : ax_op (ax_call d) (ax_st (15, nx, a, b, n) m L st h) (ax_gd p l e R s mM args below meth c QF D dA Hb h0 ro ρ0 hF hS m) Q0) : ax_gd p l e R s mM args below meth c QF D dA Hb h0 ro ρ0 hF hS m (m, pc, L, st) h := by
  obtain ⟨hx, hb, hml, hown, hts, henv, hnm, hsb, hrm, hm⟩ := X
  change ax_op (ax_call d) (st_nul m nx a b L st h) (ax_gd p l e R s mM args below meth c QF D dA Hb h0 ro ρ0 hF hS m) Q0 at ho
  simp only [ax_side, Bool.and_eq_true] at hs
  obtain ⟨h1, h2⟩ := hs
  obtain rfl := ax_nxt h1
  rw [Nat.add_sub_cancel_left] at hd
  have hb9 : b < 4 := Nat.le_of_ble_eq_true h2
  have hj : (pc : Int) + ((a : Int) - (pc : Int)) = (a : Int) := by omega
  match st, ho with
  | .inr (.inr r) :: st, ho =>
    have key : ∀ (x y : Nat), ax_op (ax_call d) (an_b (r = none) (m, x, L, st) (m, y, L, st) h) (ax_gd p l e R s mM args below meth c QF D dA Hb h0 ro ρ0 hF hS m) Q0 → (∀ ρ H locs ls, (W p l e R s mM args below meth c H locs (h.2.2.2.2.1 - hS.2.2.2.2.1) (h.2.2.2.2.2 - hS.2.2.2.2.2) QF (F0 mM x ls (st.map (ax_cv ρ))) → W p l e R s mM args below meth c H locs (h.2.2.2.2.1 - hS.2.2.2.2.1) (h.2.2.2.2.2 - hS.2.2.2.2.2) QF (F0 mM pc ls (.null :: st.map (ax_cv ρ)))) ∧ ∀ q, W p l e R s mM args below meth c H locs (h.2.2.2.2.1 - hS.2.2.2.2.1) (h.2.2.2.2.2 - hS.2.2.2.2.2) QF (F0 mM y ls (st.map (ax_cv ρ))) → W p l e R s mM args below meth c H locs (h.2.2.2.2.1 - hS.2.2.2.2.1) (h.2.2.2.2.2 - hS.2.2.2.2.2) QF (F0 mM pc ls (.ref q :: st.map (ax_cv ρ)))) → ax_gd p l e R s mM args below meth c QF D dA Hb h0 ro ρ0 hF hS m (m, pc, L, .inr (.inr r) :: st) h := by
      intro x y ho hk
      have ho : (r = none → ax_gd p l e R s mM args below meth c QF D dA Hb h0 ro ρ0 hF hS m (m, x, L, st) h) ∧ (¬ r = none → ax_gd p l e R s mM args below meth c QF D dA Hb h0 ro ρ0 hF hS m (m, y, L, st) h) := ho
      refine ⟨rfl, by by_cases q : r = none; · exact (ho.1 q).2.1
                      · exact (ho.2 q).2.1, fun ρ H locs ls S => ?_⟩
      obtain ⟨S1, S2, S3, S4, S5, S6⟩ := S
      obtain ⟨hal, T5⟩ := ax_fm1 S5
      cases r with
      | none => exact (hk ρ H locs ls).1 ((ho.1 rfl).2.2 ρ H locs ls ⟨S1, S2, S3, S4, T5, S6⟩)
      | some q => exact (hk ρ H locs ls).2 _ ((ho.2 (by simp)).2.2 ρ H locs ls ⟨S1, S2, S3, S4, T5, S6⟩)
    match b, hb9, hd, ho with
    | 0, _, hd, ho =>
      refine key a (pc + 3) ?_ (fun ρ H locs ls => ⟨fun k => lv_ifnullN hx hb hd hj k, fun q k => lv_ifnull hx hb hd k⟩)
      cases r with
      | none => exact ⟨fun _ => ho, fun q => absurd rfl q⟩
      | some q => exact ⟨fun q => by simp at q, fun _ => ho⟩
    | 1, _, hd, ho =>
      refine key (pc + 3) a ?_ (fun ρ H locs ls => ⟨fun k => lv_ifnonnullN hx hb hd k, fun q k => lv_ifnonnull hx hb hd hj k⟩)
      cases r with
      | none => exact ⟨fun _ => ho, fun q => absurd rfl q⟩
      | some q => exact ⟨fun q => by simp at q, fun _ => ho⟩
    | 2, _, hd, ho => exact key a (pc + 3) ho (fun ρ H locs ls => ⟨fun k => lv_ifnullN hx hb hd hj k, fun q k => lv_ifnull hx hb hd k⟩)
    | 3, _, hd, ho => exact key (pc + 3) a ho (fun ρ H locs ls => ⟨fun k => lv_ifnonnullN hx hb hd k, fun q k => lv_ifnonnull hx hb hd hj k⟩)
theorem ax_s16 (X : ax_cx p l e R s mM args below meth c D dA Hb h0 ro d m hF hS) {nx a b : Nat} {n : Int32} {pc : Nat} {L : AL} {st : List AV} {h : AH} (hd : decode (ax_bc m) pc = .ok (ax_enc pc (16, nx, a, b, n), nx - pc)) (hs : ax_side m pc (16, nx, a, b, n) = true) (ho : ax_op (ax_call d) (ax_st (16, nx, a, b, n) m L st h) (ax_gd p l e R s mM args below meth c QF D dA Hb h0 ro ρ0 hF hS m) Q0) : ax_gd p l e R s mM args below meth c QF D dA Hb h0 ro ρ0 hF hS m (m, pc, L, st) h := by
  obtain ⟨hx, hb, hml, hown, hts, henv, hnm, hsb, hrm, hm⟩ := X
  have ho : ax_gd p l e R s mM args below meth c QF D dA Hb h0 ro ρ0 hF hS m (m, a, L, st) h := ho
  have hj : (pc : Int) + ((a : Int) - (pc : Int)) = (a : Int) := by omega
  simp only [ax_side] at hs
  obtain rfl := ax_nxt hs
  rw [Nat.add_sub_cancel_left] at hd
  refine ⟨rfl, ho.2.1, fun ρ H locs ls S => ?_⟩
  have k := ho.2.2 ρ H locs ls S
  exact lv_goto hx hb hd hj k
theorem ax_s17 (X : ax_cx p l e R s mM args below meth c D dA Hb h0 ro d m hF hS) {nx a b : Nat} {n : Int32} {pc : Nat} {L : AL} {st : List AV} {h : AH} (hd : decode (ax_bc m) pc = .ok (ax_enc pc (17, nx, a, b, n), nx - pc)) (hs : ax_side m pc (17, nx, a, b, n) = true) (ho : ax_op (ax_call d) (ax_st (17, nx, a, b, n) m L st h) (ax_gd p l e R s mM args below meth c QF D dA Hb h0 ro ρ0 hF hS m) Q0) : ax_gd p l e R s mM args below meth c QF D dA Hb h0 ro ρ0 hF hS m (m, pc, L, st) h := by
  obtain ⟨hx, hb, hml, hown, hts, henv, hnm, hsb, hrm, hm⟩ := X
  change ax_op (ax_call d) (st_tsw m a L st h) (ax_gd p l e R s mM args below meth c QF D dA Hb h0 ro ρ0 hF hS m) Q0 at ho
  match st, ho with
  | .inl x :: st, ho =>
    have ho : ax_gd p l e R s mM args below meth c QF D dA Hb h0 ro ρ0 hF hS m (m, ax_tsw a x, L, st) h := ho
    refine ⟨rfl, ho.2.1, fun ρ H locs ls S => ?_⟩
    obtain ⟨S1, S2, S3, S4, S5, S6⟩ := S
    have k := ho.2.2 ρ H locs ls ⟨S1, S2, S3, S4, (ax_fm1 S5).2, S6⟩
    have hs : ax_tsok pc a = true := hs
    unfold ax_tsok at hs
    simp only [Bool.and_eq_true, decide_eq_true_eq, List.all_eq_true, List.mem_range] at hs
    obtain ⟨⟨⟨h1, h2, h3⟩, h4⟩, h5⟩ := hs
    by_cases hr : x.toInt < (ax_tst a).2.1 ∨ (ax_tst a).2.2.1 < x.toInt
    · exact lv_tableOut hx hb hd hr (by rw [h5, ax_tsw_out hr h1]) k
    · have q1 : ¬ x.toInt < (ax_tst a).2.1 := fun q => hr (Or.inl q)
      have q2 : ¬ (ax_tst a).2.2.1 < x.toInt := fun q => hr (Or.inr q)
      have hlt : (x.toInt - (ax_tst a).2.1).toNat < (ax_tst a).2.2.2.length := by omega
      have hi := h4 _ hlt
      have hxe : (ax_tst a).2.1 + ((x.toInt - (ax_tst a).2.1).toNat : Int) = x.toInt := by omega
      rw [hxe, Int32.ofInt_toInt] at hi
      refine lv_tableIn hx hb hd q1 q2 (off := (ax_tst a).2.2.2.getD (x.toInt - (ax_tst a).2.1).toNat 0) ?_ hi k
      rw [List.getElem?_toArray, List.getD_eq_getElem?_getD, List.getElem?_eq_getElem hlt]
      rfl
theorem ax_s54 (X : ax_cx p l e R s mM args below meth c D dA Hb h0 ro d m hF hS) {nx a b : Nat} {n : Int32} {pc : Nat} {L : AL} {st : List AV} {h : AH} (hd : decode (ax_bc m) pc = .ok (ax_enc pc (54, nx, a, b, n), nx - pc)) (hs : ax_side m pc (54, nx, a, b, n) = true) (ho : ax_op (ax_call d) (ax_st (54, nx, a, b, n) m L st h) (ax_gd p l e R s mM args below meth c QF D dA Hb h0 ro ρ0 hF hS m) Q0) : ax_gd p l e R s mM args below meth c QF D dA Hb h0 ro ρ0 hF hS m (m, pc, L, st) h := by
  obtain ⟨hx, hb, hml, hown, hts, henv, hnm, hsb, hrm, hm⟩ := X
  change ax_op (ax_call d) (st_lsh m nx b L st h) (ax_gd p l e R s mM args below meth c QF D dA Hb h0 ro ρ0 hF hS m) Q0 at ho
  simp only [ax_side, Bool.and_eq_true] at hs
  obtain ⟨h1, h2⟩ := hs
  obtain rfl := ax_nxt h1
  rw [Nat.add_sub_cancel_left] at hd
  have hb9 : b < 2 := Nat.le_of_ble_eq_true h2
  match st, ho with
  | .inl y :: .inr (.inl x) :: st, ho =>
    have ho : ax_gd p l e R s mM args below meth c QF D dA Hb h0 ro ρ0 hF hS m (m, pc + 1, L, .inr (.inl (ax_lsh b x y)) :: st) h := ho
    refine ⟨rfl, ho.2.1, fun ρ H locs ls S => ?_⟩
    obtain ⟨S1, S2, S3, S4, S5, S6⟩ := S
    have k := ho.2.2 ρ H locs ls ⟨S1, S2, S3, S4, ax_fm ax_al_l (ax_fm1 (ax_fm1 S5).2).2, S6⟩
    match b, hb9, hd, k with
    | 0, _, hd, k => exact lv_lshl hx hb hd rfl k
    | 1, _, hd, k => exact lv_lshr hx hb hd rfl k
theorem ax_s18 (X : ax_cx p l e R s mM args below meth c D dA Hb h0 ro d m hF hS) {r : Option AV} (HR : ax_hr p l e R s mM args below meth c QF D dA Hb h0 ro ρ0 hF hS m r) {nx a b : Nat} {n : Int32} {pc : Nat} {L : AL} {st : List AV} {h : AH} (hd : decode (ax_bc m) pc = .ok (ax_enc pc (18, nx, a, b, n), nx - pc)) (hs : ax_side m pc (18, nx, a, b, n) = true) (ho : ax_op (ax_call d) (ax_st (18, nx, a, b, n) m L st h) (ax_gd p l e R s mM args below meth c QF D dA Hb h0 ro ρ0 hF hS m) (fun r' h' => r' = r ∧ h' = hF)) : ax_gd p l e R s mM args below meth c QF D dA Hb h0 ro ρ0 hF hS m (m, pc, L, st) h := by
  obtain ⟨hx, hb, hml, hown, hts, henv, hnm, hsb, hrm, hm⟩ := X
  change ax_op (ax_call d) (st_iret b st h) (ax_gd p l e R s mM args below meth c QF D dA Hb h0 ro ρ0 hF hS m) (fun r' h' => r' = r ∧ h' = hF) at ho
  simp only [ax_side, Bool.and_eq_true, decide_eq_true_eq] at hs
  obtain ⟨h1, h2⟩ := hs
  obtain rfl := ax_nxt h1
  rw [Nat.add_sub_cancel_left] at hd
  match st, ho with
  | [.inl x], ho =>
    have key : ∀ ty, ax_rt m = some ty → narrow ty (.int x) = .int x → (some (.inl x) : Option AV) = r ∧ h = hF → ax_gd p l e R s mM args below meth c QF D dA Hb h0 ro ρ0 hF hS m (m, pc, L, [.inl x]) h := fun ty hty hn ho => by
      obtain ⟨rfl, rfl⟩ := ho
      exact ⟨rfl, ⟨Nat.le_refl _, Nat.le_refl _⟩, fun ρ H locs ls S => HR ρ H locs ls pc _ _ S.1 S.2.1 S.2.2.2.2.2.2.1 hd (Or.inl ⟨rfl, x, ty, rfl, rfl, hty, hn⟩) (fun v e => by cases e; exact ax_al_i)⟩
    match b, h2, ho with
    | 0, h2, ho => exact key _ h2 rfl ho
    | 1, h2, ho => exact key _ h2 (by rcases ho.1 with e1 | e1 <;> rw [e1] <;> decide) ho.2
    | 2, h2, ho => exact key _ h2 (congrArg Value.int ho.1) ho.2
    | b + 3, h2, ho => exact key _ h2 (congrArg Value.int ho.1) ho.2
theorem ax_s19 (X : ax_cx p l e R s mM args below meth c D dA Hb h0 ro d m hF hS) {r : Option AV} (HR : ax_hr p l e R s mM args below meth c QF D dA Hb h0 ro ρ0 hF hS m r) {nx a b : Nat} {n : Int32} {pc : Nat} {L : AL} {st : List AV} {h : AH} (hd : decode (ax_bc m) pc = .ok (ax_enc pc (19, nx, a, b, n), nx - pc)) (hs : ax_side m pc (19, nx, a, b, n) = true) (ho : ax_op (ax_call d) (ax_st (19, nx, a, b, n) m L st h) (ax_gd p l e R s mM args below meth c QF D dA Hb h0 ro ρ0 hF hS m) (fun r' h' => r' = r ∧ h' = hF)) : ax_gd p l e R s mM args below meth c QF D dA Hb h0 ro ρ0 hF hS m (m, pc, L, st) h := by
  obtain ⟨hx, hb, hml, hown, hts, henv, hnm, hsb, hrm, hm⟩ := X
  change ax_op (ax_call d) (st_lret st h) (ax_gd p l e R s mM args below meth c QF D dA Hb h0 ro ρ0 hF hS m) (fun r' h' => r' = r ∧ h' = hF) at ho
  simp only [ax_side, Bool.and_eq_true, decide_eq_true_eq] at hs
  obtain ⟨h1, h2⟩ := hs
  obtain rfl := ax_nxt h1
  rw [Nat.add_sub_cancel_left] at hd
  match st, ho with
  | [.inr (.inl x)], ho =>
    obtain ⟨rfl, rfl⟩ := ho
    exact ⟨rfl, ⟨Nat.le_refl _, Nat.le_refl _⟩, fun ρ H locs ls S => HR ρ H locs ls pc _ _ S.1 S.2.1 S.2.2.2.2.2.2.1 hd (Or.inr (Or.inl ⟨rfl, x, rfl, rfl, h2⟩)) (fun v e => by cases e; exact ax_al_l)⟩
theorem ax_s20 (X : ax_cx p l e R s mM args below meth c D dA Hb h0 ro d m hF hS) {r : Option AV} (HR : ax_hr p l e R s mM args below meth c QF D dA Hb h0 ro ρ0 hF hS m r) {nx a b : Nat} {n : Int32} {pc : Nat} {L : AL} {st : List AV} {h : AH} (hd : decode (ax_bc m) pc = .ok (ax_enc pc (20, nx, a, b, n), nx - pc)) (hs : ax_side m pc (20, nx, a, b, n) = true) (ho : ax_op (ax_call d) (ax_st (20, nx, a, b, n) m L st h) (ax_gd p l e R s mM args below meth c QF D dA Hb h0 ro ρ0 hF hS m) (fun r' h' => r' = r ∧ h' = hF)) : ax_gd p l e R s mM args below meth c QF D dA Hb h0 ro ρ0 hF hS m (m, pc, L, st) h := by
  obtain ⟨hx, hb, hml, hown, hts, henv, hnm, hsb, hrm, hm⟩ := X
  change ax_op (ax_call d) (st_aret st h) (ax_gd p l e R s mM args below meth c QF D dA Hb h0 ro ρ0 hF hS m) (fun r' h' => r' = r ∧ h' = hF) at ho
  simp only [ax_side, Bool.and_eq_true] at hs
  obtain ⟨h1, h2⟩ := hs
  obtain rfl := ax_nxt h1
  rw [Nat.add_sub_cancel_left] at hd
  have h3 : ∃ ty, ax_rt m = some ty ∧ ((∃ n, ty = .object n) ∨ ∃ t, ty = .array t) := by
    match hq : ax_rt m, h2 with
    | some (.object n), _ => exact ⟨_, rfl, Or.inl ⟨n, rfl⟩⟩
    | some (.array t), _ => exact ⟨_, rfl, Or.inr ⟨t, rfl⟩⟩
  obtain ⟨ty, h3, h4⟩ := h3
  match st, ho with
  | [.inr (.inr x)], ho =>
    obtain ⟨rfl, rfl⟩ := ho
    exact ⟨rfl, ⟨Nat.le_refl _, Nat.le_refl _⟩, fun ρ H locs ls S => HR ρ H locs ls pc _ _ S.1 S.2.1 S.2.2.2.2.2.2.1 hd (Or.inr (Or.inr (Or.inl ⟨rfl, x, ty, rfl, rfl, h3, h4⟩))) (fun v e => by cases e; exact (ax_fm1 S.2.2.2.2.1).1)⟩
theorem ax_s21 (X : ax_cx p l e R s mM args below meth c D dA Hb h0 ro d m hF hS) {r : Option AV} (HR : ax_hr p l e R s mM args below meth c QF D dA Hb h0 ro ρ0 hF hS m r) {nx a b : Nat} {n : Int32} {pc : Nat} {L : AL} {st : List AV} {h : AH} (hd : decode (ax_bc m) pc = .ok (ax_enc pc (21, nx, a, b, n), nx - pc)) (hs : ax_side m pc (21, nx, a, b, n) = true) (ho : ax_op (ax_call d) (ax_st (21, nx, a, b, n) m L st h) (ax_gd p l e R s mM args below meth c QF D dA Hb h0 ro ρ0 hF hS m) (fun r' h' => r' = r ∧ h' = hF)) : ax_gd p l e R s mM args below meth c QF D dA Hb h0 ro ρ0 hF hS m (m, pc, L, st) h := by
  obtain ⟨hx, hb, hml, hown, hts, henv, hnm, hsb, hrm, hm⟩ := X
  change ax_op (ax_call d) (st_vret st h) (ax_gd p l e R s mM args below meth c QF D dA Hb h0 ro ρ0 hF hS m) (fun r' h' => r' = r ∧ h' = hF) at ho
  simp only [ax_side, Bool.and_eq_true, decide_eq_true_eq] at hs
  obtain ⟨h1, h2⟩ := hs
  obtain rfl := ax_nxt h1
  rw [Nat.add_sub_cancel_left] at hd
  match st, ho with
  | [], ho =>
    obtain ⟨rfl, rfl⟩ := ho
    exact ⟨rfl, ⟨Nat.le_refl _, Nat.le_refl _⟩, fun ρ H locs ls S => HR ρ H locs ls pc _ _ S.1 S.2.1 S.2.2.2.2.2.2.1 hd (Or.inr (Or.inr (Or.inr ⟨rfl, rfl, rfl, h2⟩))) (fun v e => by cases e)⟩
end SND
