
def ax_ext (ρ : Nat → Nat → Nat) (t o q : Nat) : Nat → Nat → Nat := fun s a => if s = t ∧ a = o then q else ρ s a
theorem ax_ext_ne {ρ : Nat → Nat → Nat} {t o q s a : Nat} (h : ¬ (s = t ∧ a = o)) : ax_ext ρ t o q s a = ρ s a := if_neg h
theorem ax_ext_eq {ρ : Nat → Nat → Nat} {t o q : Nat} : ax_ext ρ t o q t o = q := if_pos ⟨rfl, rfl⟩
/-- one new cell -/
theorem ax_wd.one {D : va_G} {dA : Nat → ClassId} {Hb : Heap} {h0 : AH} {ro ρ : Nat → Nat → Nat} {h h' : AH} {H H' : Heap} (hw : ax_wd D dA Hb h0 ro ρ h H) {t n : Nat} (ht : ax_own t) (hz : H'.size = H.size + 1) (old : ∀ q, q < H.size → H'[q]? = H[q]?) (h2 : h'.2 = (ax_new h t n).2) (hI : ∀ s a j, ¬ (s = t ∧ a = h.2.2.1 t) → h'.1 s a j = h.1 s a j)
    (hc : ax_relc D dA (ax_ext ρ t (h.2.2.1 t) H.size) h' t (h.2.2.1 t) H') (hn : ax_sz h' t (h.2.2.1 t) ≤ n) : ax_wd D dA Hb h0 ro (ax_ext ρ t (h.2.2.1 t) H.size) h' H' := by
  have hgn : ∀ s, h'.2.2.1 s = if s = t then h.2.2.1 t + 1 else h.2.2.1 s := fun s => by rw [h2]; rfl
  have hgr : ∀ s a j, h'.2.1 s a j = if s = t ∧ a = h.2.2.1 t ∧ j < n then none else h.2.1 s a j := fun s a j => by rw [h2]; rfl
  have hgl : ∀ s a, h'.2.2.2.1 s a = if s = t ∧ a = h.2.2.1 t then n else h.2.2.2.1 s a := fun s a => by rw [h2]; rfl
  have only : ∀ s a, h.2.2.1 s ≤ a → a < h'.2.2.1 s → s = t ∧ a = h.2.2.1 t := fun s a h1 h2 => by
    rw [hgn] at h2
    by_cases e : s = t
    · subst e
      rw [if_pos rfl] at h2
      exact ⟨rfl, by omega⟩
    · rw [if_neg e] at h2
      omega
  have nt : ∀ s a, a < h.2.2.1 s → ¬ (s = t ∧ a = h.2.2.1 t) := fun s a h1 q => by obtain ⟨rfl, rfl⟩ := q; omega
  refine hw.grow (by omega) old (fun s => ?_) (fun s a h1 => ax_ext_ne (nt s a h1)) (fun s a h1 => ax_ext_ne (fun q => h1 (q.1 ▸ ht))) (fun s a j h1 => hI s a j (nt s a h1)) (fun s a j h1 => ?_) (fun s a h1 => ?_) (fun s a hs h1 h2 => ?_) (fun s a h1 h2 => ?_) (fun s a t' b hs ht' h1 h2 h3 h4 _ => ?_) (fun s hs => ?_)
  · rw [hgn]
    by_cases e : s = t
    · subst e
      rw [if_pos rfl]
      omega
    · rw [if_neg e]
      exact Nat.le_refl _
  · rw [hgr, if_neg (fun q => nt s a h1 ⟨q.1, q.2.1⟩)]
  · rw [hgl, if_neg (nt s a h1)]
  · obtain ⟨rfl, rfl⟩ := only s a h1 h2
    exact ⟨hc, by rw [ax_ext_eq]; exact Nat.le_refl _⟩
  · obtain ⟨rfl, rfl⟩ := only s a h1 h2
    intro j hj t1 b1 e
    rw [hgr, if_pos ⟨rfl, rfl, by omega⟩] at e
    cases e
  · obtain ⟨rfl, rfl⟩ := only s a h1 h2
    obtain ⟨rfl, rfl⟩ := only t' b h3 h4
    exact ⟨rfl, rfl⟩
  · have e : s ≠ t := fun q => hs (q ▸ ht)
    refine ⟨?_, ?_, ?_, ?_⟩
    · funext a j
      exact hI s a j (fun q => e q.1)
    · funext a j
      rw [hgr, if_neg (fun q => e q.1)]
    · rw [hgn, if_neg e]
    · funext a
      rw [hgl, if_neg (fun q => e q.1)]
theorem ax_lrel.ext {ρ ρ' : Nat → Nat → Nat} {L : AL} {ls : Array Slot} {nL : Nat} {h : AH} (hl : ax_lrel ρ L ls nL) (ha : ∀ i v, ax_lget L i = some v → ax_alive h v) (hρ : ∀ s a, a < h.2.2.1 s → ρ' s a = ρ s a) : ax_lrel ρ' L ls nL :=
  ⟨hl.1, hl.2.1, fun i v hv => by rw [ax_cv_congr (ha i v hv) hρ]; exact hl.2.2 i v hv⟩
theorem ax_map_ext {ρ ρ' : Nat → Nat → Nat} {h : AH} : ∀ {st : List AV}, (∀ v ∈ st, ax_alive h v) → (∀ s a, a < h.2.2.1 s → ρ' s a = ρ s a) → st.map (ax_cv ρ') = st.map (ax_cv ρ)
  | [], _, _ => rfl
  | v :: st, ha, hρ => by
    rw [List.map_cons, List.map_cons, ax_cv_congr (ax_fm1 ha).1 hρ, ax_map_ext (ax_fm1 ha).2 hρ]
theorem ax_alive.mono {h h' : AH} (hn : ∀ s, h.2.2.1 s ≤ h'.2.2.1 s) {v : AV} (hv : ax_alive h v) : ax_alive h' v := fun s a e => Nat.lt_of_lt_of_le (hv s a e) (hn s)
theorem ax_dflt {c k : Nat} (hc : c < 13) (hk : k < ax_N c) : defaultValue (ax_fty c k) = cond (ax_fr c k) .null (.int 0) := by
  have : ∀ c, c < 13 → ∀ k, k < ax_N c → defaultValue (ax_fty c k) = cond (ax_fr c k) .null (.int 0) := by decide +kernel
  exact this c hc k hk
theorem ax_new_nle {h : AH} {t n : Nat} (s : Nat) : h.2.2.1 s ≤ (ax_new h t n).2.2.1 s := by
  show h.2.2.1 s ≤ ax_wN h.2.2.1 t (h.2.2.1 t + 1) s
  unfold ax_wN
  by_cases e : s = t
  · subst e; rw [if_pos rfl]; omega
  · rw [if_neg e]; exact Nat.le_refl _
theorem ax_new_lt {h : AH} {t n : Nat} : h.2.2.1 t < (ax_new h t n).2.2.1 t := by
  show h.2.2.1 t < ax_wN h.2.2.1 t (h.2.2.1 t + 1) t
  unfold ax_wN
  rw [if_pos rfl]
  omega
theorem ax_new_len {h : AH} {t n : Nat} (hs : ax_sl t = some n ∨ ax_sl t = none) : ax_len (ax_new h t n) t (h.2.2.1 t) = n := by
  unfold ax_len
  rcases hs with e | e
  · rw [e]
  · rw [e]
    show ax_wL h.2.2.2.1 t (h.2.2.1 t) n t (h.2.2.1 t) = n
    unfold ax_wL
    rw [if_pos ⟨rfl, rfl⟩]
theorem ax_new_ev {ρ : Nat → Nat → Nat} {h : AH} {t n c j : Nat} (h8 : Nat.beq c 8 = false) (hj : j < n) : ax_eval ρ (ax_new h t n) t (h.2.2.1 t) c j = cond (Nat.ble 3 c) .null (.int 0) := by
  unfold ax_eval
  have e1 : (ax_new h t n).2.1 t (h.2.2.1 t) j = none := if_pos ⟨rfl, rfl, hj⟩
  have e2 : (ax_new h t n).1 t (h.2.2.1 t) j = 0 := if_pos ⟨rfl, rfl, hj⟩
  rw [h8, e1, e2]
  rfl
theorem ax_newl_len {h : AH} {t n : Nat} (hs : ax_sl t = some n ∨ ax_sl t = none) : ax_len (ax_newl h t n) t (h.2.2.1 t) = n := (ax_len_congr rfl).trans (ax_new_len (h := h) hs)
theorem ax_newl_ev {ρ : Nat → Nat → Nat} {h : AH} {t n j : Nat} (hs : ax_sl t = some n ∨ ax_sl t = none) (hj : j < n) : ax_eval ρ (ax_newl h t n) t (h.2.2.1 t) 8 j = .long 0 := by
  unfold ax_eval
  rw [ax_newl_len hs]
  have e1 : (ax_newl h t n).1 t (h.2.2.1 t) j = 0 := if_pos ⟨rfl, rfl, by omega⟩
  have e2 : (ax_newl h t n).1 t (h.2.2.1 t) (n + j) = 0 := if_pos ⟨rfl, rfl, by omega⟩
  rw [e1, e2]
  have e3 : ax_lE 0 0 = 0 := by decide
  show Value.long (ax_lE 0 0) = _
  rw [e3]
theorem ax_new_fv {ρ : Nat → Nat → Nat} {h : AH} {t n c j : Nat} (hj : j < n) : ax_fval ρ (ax_new h t n) t (h.2.2.1 t) c j = cond (ax_fr c j) .null (.int 0) := by
  unfold ax_fval
  have e1 : (ax_new h t n).2.1 t (h.2.2.1 t) j = none := if_pos ⟨rfl, rfl, hj⟩
  have e2 : (ax_new h t n).1 t (h.2.2.1 t) j = 0 := if_pos ⟨rfl, rfl, hj⟩
  rw [e1, e2]
  rfl
section SND
variable {p : Program} {l : Launch} {e : Env} {R : Room} {s : State} {mM : MethodId} {args : Array Value} {below : List Frame} {meth : Method} {c : Code} {QF : State → Prop} {D : va_G} {dA : Nat → ClassId} {Hb : Heap} {h0 hF hS : AH} {ro ρ0 : Nat → Nat → Nat} {d m : Nat} {Q0 : Option AV → AH → Prop}

theorem ax_wgets (X : ax_cx p l e R s mM args below meth c D dA Hb h0 ro d m hF hS) {pc : Nat} {ls : Array Slot} {ρ : Nat → Nat → Nat} {h : AH} {H : Heap} {locs : List Loc} {cells slots : Nat}  (hw : ax_wd D dA Hb h0 ro ρ h H) {own C n d1 : String} {idx : Nat} {v : Value} {rest : List Value} (hcl : ax_cn (ax_mc m) = own) (hZ : va_Z C n d1 v (ax_A Hb) s Hb) (hl : (Cond.fieldLink own idx C n d1).before args s = true ∨ ∃ ho, (Cond.fieldLinkNest own idx C n d1 ho).before args s = true) (hd : decode (ax_bc m) pc = .ok (.getstatic idx, 3))
    (k : W p l e R s mM args below meth c H locs cells slots QF (F0 mM (pc + 3) ls (v :: rest))) : W p l e R s mM args below meth c H locs cells slots QF (F0 mM pc ls rest) := by
  obtain ⟨hx, hb, hml, hown, hts, henv, hnm, hsb, hrm, hm⟩ := X
  have kept : ∀ q : Nat, q < Hb.size → ¬ ax_A Hb q → H[q]? = Hb[q]? := fun q hq _ => hw.2.2.2.1.2 q hq
  obtain ⟨cf, kf, fi, f, a, cell, h1, h2, h3, h4, h5, h6, h7, h8⟩ := hZ.kept kept
  rw [hcl] at hown
  rcases hl with hl | ⟨hh, hl⟩
  · exact W.gets hx hb hown hl h1 h2 h3 h4 h5 (fun e => by rw [e] at h6; cases h6) h7 rfl hd k
  · exact va_WgetsN hx hb hown hl h1 h2 h3 h4 h5 (fun e => by rw [e] at h6; cases h6) h7 rfl hd k
theorem ax_s26 (X : ax_cx p l e R s mM args below meth c D dA Hb h0 ro d m hF hS) {nx a b : Nat} {n : Int32} {pc : Nat} {L : AL} {st : List AV} {h : AH} (hd : decode (ax_bc m) pc = .ok (ax_enc pc (26, nx, a, b, n), nx - pc)) (hs : ax_side m pc (26, nx, a, b, n) = true) (ho : ax_op (ax_call d) (ax_st (26, nx, a, b, n) m L st h) (ax_gd p l e R s mM args below meth c QF D dA Hb h0 ro ρ0 hF hS m) Q0) : ax_gd p l e R s mM args below meth c QF D dA Hb h0 ro ρ0 hF hS m (m, pc, L, st) h := by
  obtain ⟨hx, hb, hml, hown, hts, henv, hnm, hsb, hrm, hm⟩ := X
  have ho : ax_gd p l e R s mM args below meth c QF D dA Hb h0 ro ρ0 hF hS m (m, nx, L, .inr (.inr (some (a, h.2.2.1 a))) :: st) (ax_new h a b) := ho
  simp only [ax_side, Bool.and_eq_true] at hs
  obtain ⟨h1, h2, h3, h4⟩ := hs
  obtain rfl := ax_nxt h1
  rw [Nat.add_sub_cancel_left] at hd
  have ha : a < 13 := Nat.le_of_ble_eq_true h3
  have hbN : b = ax_N a := Nat.eq_of_beq_eq_true h4
  subst hbN
  obtain ⟨hin, hins, hini, hty, hT, -⟩ := ax_cl_use ha
  have hsk := ax_sk_cls ha
  have hot : ax_own a := by unfold ax_own; rw [hsk]; simp
  have hcn : h.2.2.2.2.1 + 1 ≤ hF.2.2.2.2.1 ∧ h.2.2.2.2.2 + ax_N a ≤ hF.2.2.2.2.2 := ho.2.1
  refine ⟨rfl, ⟨by omega, by omega⟩, fun ρ H locs ls S => ?_⟩
  obtain ⟨S1, S2, S3, S4, S5, S6, S7, S8⟩ := S
  have hKn := henv.1.1 a _ (ax_cls_get ha)
  unfold ax_sk2 at h2
  rw [Bool.and_eq_true, Bool.and_eq_true, decide_eq_true_eq] at h2
  have hlk := ax_kt_word (Nat.le_of_ble_eq_true h2.2.2)
  rw [Nat.eq_of_beq_eq_true h2.1, h2.2.1] at hlk
  have hρ : ∀ x y, y < h.2.2.1 x → ax_ext ρ a (h.2.2.1 a) H.size x y = ρ x y := fun x y h9 => ax_ext_ne (fun q => by obtain ⟨rfl, rfl⟩ := q; omega)
  refine W.newcK hx hb hown (hts _ hlk) (hts _ hins) (hts _ hini) rfl hd (by have := hrm.2.2.1; omega) (by have := hrm.2.2.2; omega) hKn.2.1 rfl (fun H1 kC hkC e1 z1 o1 => ?_)
  have k : W p l e R s mM args below meth c H1 locs ((ax_new h a (ax_N a)).2.2.2.2.1 - hS.2.2.2.2.1) ((ax_new h a (ax_N a)).2.2.2.2.2 - hS.2.2.2.2.2) QF (F0 mM (pc + 3) ls ((.inr (.inr (some (a, h.2.2.1 a))) :: st : List AV).map (ax_cv (ax_ext ρ a (h.2.2.1 a) H.size)))) := by
    refine ho.2.2 (ax_ext ρ a (h.2.2.1 a) H.size) H1 locs ls ⟨S1.one (n := ax_N a) hot z1 o1 rfl (fun x y j q => if_neg (fun z => q ⟨z.1, z.2.1⟩)) ?_ ?_, ?_, fun x => Nat.le_trans (S3 x) (ax_new_nle x), fun i v hi => (S4 i v hi).mono ax_new_nle, ax_fm (ax_al_r ax_new_lt) (fun v hv => (S5 v hv).mono ax_new_nle), S6.ext S4 hρ, S7, Nat.le_succ_of_le S8.1, Nat.le_trans S8.2 (Nat.le_add_right _ _)⟩
    · refine ⟨fun _ => ?_, fun q => absurd q (by rw [hsk]; simp)⟩
      rw [ax_ext_eq, hsk]
      refine (u_born (ax_fty a) hts hin hKn hkC e1 hty).to (fun k hk => ?_)
      rw [ax_dflt ha hk, ax_new_fv hk]
    · rw [ax_sz0 (by rw [hsk]), hsk]
      exact Nat.le_refl _
    · intro x y h9
      rw [hρ x y (Nat.lt_of_lt_of_le h9 (S3 x))]
      exact S2 x y h9
  have e5 : (ax_new h a (ax_N a)).2.2.2.2.1 - hS.2.2.2.2.1 = h.2.2.2.2.1 - hS.2.2.2.2.1 + 1 := by show h.2.2.2.2.1 + 1 - hS.2.2.2.2.1 = _; omega
  have e6 : (ax_new h a (ax_N a)).2.2.2.2.2 - hS.2.2.2.2.2 = h.2.2.2.2.2 - hS.2.2.2.2.2 + ax_N a := by show h.2.2.2.2.2 + ax_N a - hS.2.2.2.2.2 = _; omega
  rw [e5, e6, List.map_cons, ax_map_ext S5 hρ] at k
  have e7 : ax_cv (ax_ext ρ a (h.2.2.1 a) H.size) (.inr (.inr (some (a, h.2.2.1 a)))) = .ref H.size := by
    show Value.ref (ax_ext ρ a (h.2.2.1 a) H.size a (h.2.2.1 a)) = _
    rw [ax_ext_eq]
  rw [e7] at k
  exact k
theorem ax_s27 (X : ax_cx p l e R s mM args below meth c D dA Hb h0 ro d m hF hS) {nx a b : Nat} {n : Int32} {pc : Nat} {L : AL} {st : List AV} {h : AH} (hd : decode (ax_bc m) pc = .ok (ax_enc pc (27, nx, a, b, n), nx - pc)) (hs : ax_side m pc (27, nx, a, b, n) = true) (ho : ax_op (ax_call d) (ax_st (27, nx, a, b, n) m L st h) (ax_gd p l e R s mM args below meth c QF D dA Hb h0 ro ρ0 hF hS m) Q0) : ax_gd p l e R s mM args below meth c QF D dA Hb h0 ro ρ0 hF hS m (m, pc, L, st) h := by
  obtain ⟨hx, hb, hml, hown, hts, henv, hnm, hsb, hrm, hm⟩ := X
  change ax_op (ax_call d) (st_newa m nx a L st h) (ax_gd p l e R s mM args below meth c QF D dA Hb h0 ro ρ0 hF hS m) Q0 at ho
  simp only [ax_side, Bool.and_eq_true, decide_eq_true_eq] at hs
  obtain ⟨h1, h2, hsk, h4⟩ := hs
  have hb3 : b < 3 := Nat.le_of_ble_eq_true h2
  have hb8 : Nat.beq b 8 = false := ax_rb8 (Nat.ble_eq.mpr (by omega))
  obtain rfl := ax_nxt h1
  rw [Nat.add_sub_cancel_left] at hd
  have hot : ax_own a := by unfold ax_own; rw [hsk]; simp
  match st, ho with
  | .inl n0 :: st, ho =>
    unfold st_newa at ho
    dsimp only at ho
    have main : ∀ k : Nat, (¬ n0 < 0) → n0.toNatClampNeg = k → k ≤ 65536 → (ax_sl a = some k ∨ ax_sl a = none) → ax_gd p l e R s mM args below meth c QF D dA Hb h0 ro ρ0 hF hS m (m, pc + 2, L, .inr (.inr (some (a, h.2.2.1 a))) :: st) (ax_new h a k) → ax_gd p l e R s mM args below meth c QF D dA Hb h0 ro ρ0 hF hS m (m, pc, L, .inl n0 :: st) h := by
      intro k hn0 hnk hk6 hsl ho
      have hcn : h.2.2.2.2.1 + 1 ≤ hF.2.2.2.2.1 ∧ h.2.2.2.2.2 + k ≤ hF.2.2.2.2.2 := ho.2.1
      refine ⟨rfl, ⟨by omega, by omega⟩, fun ρ H locs ls S => ?_⟩
      obtain ⟨S1, S2, S3, S4, S5, S6, S7, S8⟩ := S
      obtain ⟨-, S5⟩ := ax_fm1 S5
      have hρ : ∀ x y, y < h.2.2.1 x → ax_ext ρ a (h.2.2.1 a) H.size x y = ρ x y := fun x y h9 => ax_ext_ne (fun q => by obtain ⟨rfl, rfl⟩ := q; omega)
      have done : ∀ H1 : Heap, H1[H.size]? = some (arrV (dA b) k (fun _ => cond (Nat.ble 3 b) .null (.int 0))) → H1.size = H.size + 1 → (∀ q, q < H.size → H1[q]? = H[q]?) → W p l e R s mM args below meth c H1 locs (h.2.2.2.2.1 - hS.2.2.2.2.1 + 1) (h.2.2.2.2.2 - hS.2.2.2.2.2 + k) QF (F0 mM (pc + 2) ls (.ref H.size :: st.map (ax_cv ρ))) := by
        intro H1 e1 z1 o1
        have kk : W p l e R s mM args below meth c H1 locs ((ax_new h a k).2.2.2.2.1 - hS.2.2.2.2.1) ((ax_new h a k).2.2.2.2.2 - hS.2.2.2.2.2) QF (F0 mM (pc + 2) ls ((.inr (.inr (some (a, h.2.2.1 a))) :: st : List AV).map (ax_cv (ax_ext ρ a (h.2.2.1 a) H.size)))) := by
          refine ho.2.2 (ax_ext ρ a (h.2.2.1 a) H.size) H1 locs ls ⟨S1.one (n := k) hot z1 o1 rfl (fun x y j q => if_neg (fun z => q ⟨z.1, z.2.1⟩)) ?_ ?_, ?_, fun x => Nat.le_trans (S3 x) (ax_new_nle x), fun i v hi => (S4 i v hi).mono ax_new_nle, ax_fm (ax_al_r ax_new_lt) (fun v hv => (S5 v hv).mono ax_new_nle), S6.ext S4 hρ, S7, Nat.le_succ_of_le S8.1, Nat.le_trans S8.2 (Nat.le_add_right _ _)⟩
          · refine ⟨fun q => absurd q (by rw [hsk]; simp), fun _ => ?_⟩
            rw [ax_ext_eq, ax_new_len hsl, e1, hsk]
            congr 1
            exact ax_arrV_congr (fun j hj => (ax_new_ev hb8 hj).symm)
          · rw [ax_sz1 (by rw [hsk]), ax_new_len hsl]
            exact Nat.le_refl _
          · intro x y h9
            rw [hρ x y (Nat.lt_of_lt_of_le h9 (S3 x))]
            exact S2 x y h9
        have e5 : (ax_new h a k).2.2.2.2.1 - hS.2.2.2.2.1 = h.2.2.2.2.1 - hS.2.2.2.2.1 + 1 := by show h.2.2.2.2.1 + 1 - hS.2.2.2.2.1 = _; omega
        have e6 : (ax_new h a k).2.2.2.2.2 - hS.2.2.2.2.2 = h.2.2.2.2.2 - hS.2.2.2.2.2 + k := by show h.2.2.2.2.2 + k - hS.2.2.2.2.2 = _; omega
        rw [e5, e6, List.map_cons, ax_map_ext S5 hρ] at kk
        have e7 : ax_cv (ax_ext ρ a (h.2.2.1 a) H.size) (.inr (.inr (some (a, h.2.2.1 a)))) = .ref H.size := by
          show Value.ref (ax_ext ρ a (h.2.2.1 a) H.size a (h.2.2.1 a)) = _
          rw [ax_ext_eq]
        rw [e7] at kk
        exact kk
      match b, hb3, hd, done with
      | 0, _, hd, done =>
        refine va_newaK (atype := .int) hx hb (hts _ ax_w_ar.1) rfl hd rfl hn0 hnk (by show k * 4 ≤ _; omega) (by have := hrm.2.2.1; omega) (by have := hrm.2.2.2; omega) rfl (fun H1 cA e1 z1 o1 _ hnm => ?_)
        have hcA : cA = dA 0 := Option.some.inj (hnm.symm.trans (henv.1.2 0 _ (ax_tys_get (by decide))).2)
        rw [hcA] at e1
        exact done H1 e1 z1 o1
      | 1, _, hd, done =>
        refine va_newaK (atype := .byte) hx hb (hts _ ax_w_ar.2.1) rfl hd rfl hn0 hnk (by show k * 1 ≤ _; omega) (by have := hrm.2.2.1; omega) (by have := hrm.2.2.2; omega) rfl (fun H1 cA e1 z1 o1 _ hnm => ?_)
        have hcA : cA = dA 1 := Option.some.inj (hnm.symm.trans (henv.1.2 1 _ (ax_tys_get (by decide))).2)
        rw [hcA] at e1
        exact done H1 e1 z1 o1
      | 2, _, hd, done =>
        refine va_newaK (atype := .boolean) hx hb (hts _ ax_w_ar.2.2) rfl hd rfl hn0 hnk (by show k * 1 ≤ _; omega) (by have := hrm.2.2.1; omega) (by have := hrm.2.2.2; omega) rfl (fun H1 cA e1 z1 o1 _ hnm => ?_)
        have hcA : cA = dA 2 := Option.some.inj (hnm.symm.trans (henv.1.2 2 _ (ax_tys_get (by decide))).2)
        rw [hcA] at e1
        exact done H1 e1 z1 o1
    unfold ax_sb at h4
    cases hsl : ax_sl a with
    | some k =>
      rw [hsl] at ho h4
      exact main k ho.1.1 ho.1.2 (Nat.le_of_ble_eq_true h4) (Or.inl hsl) ho.2
    | none =>
      rw [hsl] at ho
      exact main _ ho.1.1 rfl ho.1.2 (Or.inr hsl) ho.2
theorem ax_s57 (X : ax_cx p l e R s mM args below meth c D dA Hb h0 ro d m hF hS) {nx a b : Nat} {n : Int32} {pc : Nat} {L : AL} {st : List AV} {h : AH} (hd : decode (ax_bc m) pc = .ok (ax_enc pc (57, nx, a, b, n), nx - pc)) (hs : ax_side m pc (57, nx, a, b, n) = true) (ho : ax_op (ax_call d) (ax_st (57, nx, a, b, n) m L st h) (ax_gd p l e R s mM args below meth c QF D dA Hb h0 ro ρ0 hF hS m) Q0) : ax_gd p l e R s mM args below meth c QF D dA Hb h0 ro ρ0 hF hS m (m, pc, L, st) h := by
  obtain ⟨hx, hb, hml, hown, hts, henv, hnm, hsb, hrm, hm⟩ := X
  change ax_op (ax_call d) (st_newl m nx a L st h) (ax_gd p l e R s mM args below meth c QF D dA Hb h0 ro ρ0 hF hS m) Q0 at ho
  simp only [ax_side, Bool.and_eq_true, decide_eq_true_eq] at hs
  obtain ⟨h1, h2, hsk, h4⟩ := hs
  have hb8 := Nat.eq_of_beq_eq_true h2
  subst hb8
  obtain rfl := ax_nxt h1
  rw [Nat.add_sub_cancel_left] at hd
  have hot : ax_own a := by unfold ax_own; rw [hsk]; simp
  match st, ho with
  | .inl n0 :: st, ho =>
    unfold st_newl at ho
    dsimp only at ho
    have main : ∀ k : Nat, (¬ n0 < 0) → n0.toNatClampNeg = k → k ≤ 65536 → (ax_sl a = some k ∨ ax_sl a = none) → ax_gd p l e R s mM args below meth c QF D dA Hb h0 ro ρ0 hF hS m (m, pc + 2, L, .inr (.inr (some (a, h.2.2.1 a))) :: st) (ax_newl h a k) → ax_gd p l e R s mM args below meth c QF D dA Hb h0 ro ρ0 hF hS m (m, pc, L, .inl n0 :: st) h := by
      intro k hn0 hnk hk6 hsl ho
      have hcn : h.2.2.2.2.1 + 1 ≤ hF.2.2.2.2.1 ∧ h.2.2.2.2.2 + k ≤ hF.2.2.2.2.2 := ho.2.1
      refine ⟨rfl, ⟨by omega, by omega⟩, fun ρ H locs ls S => ?_⟩
      obtain ⟨S1, S2, S3, S4, S5, S6, S7, S8⟩ := S
      obtain ⟨-, S5⟩ := ax_fm1 S5
      have hρ : ∀ x y, y < h.2.2.1 x → ax_ext ρ a (h.2.2.1 a) H.size x y = ρ x y := fun x y h9 => ax_ext_ne (fun q => by obtain ⟨rfl, rfl⟩ := q; omega)
      have done : ∀ H1 : Heap, H1[H.size]? = some (arrV (dA 8) k (fun _ => .long 0)) → H1.size = H.size + 1 → (∀ q, q < H.size → H1[q]? = H[q]?) → W p l e R s mM args below meth c H1 locs (h.2.2.2.2.1 - hS.2.2.2.2.1 + 1) (h.2.2.2.2.2 - hS.2.2.2.2.2 + k) QF (F0 mM (pc + 2) ls (.ref H.size :: st.map (ax_cv ρ))) := by
        intro H1 e1 z1 o1
        have kk : W p l e R s mM args below meth c H1 locs ((ax_newl h a k).2.2.2.2.1 - hS.2.2.2.2.1) ((ax_newl h a k).2.2.2.2.2 - hS.2.2.2.2.2) QF (F0 mM (pc + 2) ls ((.inr (.inr (some (a, h.2.2.1 a))) :: st : List AV).map (ax_cv (ax_ext ρ a (h.2.2.1 a) H.size)))) := by
          refine ho.2.2 (ax_ext ρ a (h.2.2.1 a) H.size) H1 locs ls ⟨S1.one (n := k) hot z1 o1 rfl (fun x y j q => if_neg (fun z => q ⟨z.1, z.2.1⟩)) ?_ ?_, ?_, fun x => Nat.le_trans (S3 x) (ax_new_nle x), fun i v hi => (S4 i v hi).mono ax_new_nle, ax_fm (ax_al_r ax_new_lt) (fun v hv => (S5 v hv).mono ax_new_nle), S6.ext S4 hρ, S7, Nat.le_succ_of_le S8.1, Nat.le_trans S8.2 (Nat.le_add_right _ _)⟩
          · refine ⟨fun q => absurd q (by rw [hsk]; simp), fun _ => ?_⟩
            rw [ax_ext_eq, ax_newl_len hsl, e1, hsk]
            congr 1
            exact ax_arrV_congr (fun j hj => (ax_newl_ev hsl hj).symm)
          · rw [ax_sz1 (by rw [hsk]), ax_newl_len hsl]
            exact Nat.le_refl _
          · intro x y h9
            rw [hρ x y (Nat.lt_of_lt_of_le h9 (S3 x))]
            exact S2 x y h9
        have e5 : (ax_newl h a k).2.2.2.2.1 - hS.2.2.2.2.1 = h.2.2.2.2.1 - hS.2.2.2.2.1 + 1 := by show h.2.2.2.2.1 + 1 - hS.2.2.2.2.1 = _; omega
        have e6 : (ax_newl h a k).2.2.2.2.2 - hS.2.2.2.2.2 = h.2.2.2.2.2 - hS.2.2.2.2.2 + k := by show h.2.2.2.2.2 + k - hS.2.2.2.2.2 = _; omega
        rw [e5, e6, List.map_cons, ax_map_ext S5 hρ] at kk
        have e7 : ax_cv (ax_ext ρ a (h.2.2.1 a) H.size) (.inr (.inr (some (a, h.2.2.1 a)))) = .ref H.size := by
          show Value.ref (ax_ext ρ a (h.2.2.1 a) H.size a (h.2.2.1 a)) = _
          rw [ax_ext_eq]
        rw [e7] at kk
        exact kk
      refine va_newaK (atype := .long) hx hb (hts _ ax_w_al) rfl hd rfl hn0 hnk (by show k * 8 ≤ _; omega) (by have := hrm.2.2.1; omega) (by have := hrm.2.2.2; omega) rfl (fun H1 cA e1 z1 o1 _ hnm => ?_)
      have hcA : cA = dA 8 := Option.some.inj (hnm.symm.trans (henv.1.2 8 _ (ax_tys_get (by decide))).2)
      rw [hcA] at e1
      exact done H1 e1 z1 o1
    unfold ax_sb at h4
    cases hsl : ax_sl a with
    | some k =>
      rw [hsl] at ho h4
      exact main k ho.1.1 ho.1.2 (Nat.le_of_ble_eq_true h4) (Or.inl hsl) ho.2
    | none =>
      rw [hsl] at ho
      exact ho.elim
theorem ax_s28 (X : ax_cx p l e R s mM args below meth c D dA Hb h0 ro d m hF hS) {nx a b : Nat} {n : Int32} {pc : Nat} {L : AL} {st : List AV} {h : AH} (hd : decode (ax_bc m) pc = .ok (ax_enc pc (28, nx, a, b, n), nx - pc)) (hs : ax_side m pc (28, nx, a, b, n) = true) (ho : ax_op (ax_call d) (ax_st (28, nx, a, b, n) m L st h) (ax_gd p l e R s mM args below meth c QF D dA Hb h0 ro ρ0 hF hS m) Q0) : ax_gd p l e R s mM args below meth c QF D dA Hb h0 ro ρ0 hF hS m (m, pc, L, st) h := by
  obtain ⟨hx, hb, hml, hown, hts, henv, hnm, hsb, hrm, hm⟩ := X
  change ax_op (ax_call d) (st_newq m nx a L st h) (ax_gd p l e R s mM args below meth c QF D dA Hb h0 ro ρ0 hF hS m) Q0 at ho
  simp only [ax_side, Bool.and_eq_true, decide_eq_true_eq] at hs
  obtain ⟨h1, h2, h3, h4, hsk, h5⟩ := hs
  have hb3 : 3 ≤ b := Nat.le_of_ble_eq_true h2
  have hb7 : b < 7 := Nat.le_of_ble_eq_true h3
  have hb8 : Nat.beq b 8 = false := ax_rb8 (Nat.ble_eq.mpr (by omega))
  obtain rfl := ax_nxt h1
  rw [Nat.add_sub_cancel_left] at hd
  have hot : ax_own a := by unfold ax_own; rw [hsk]; simp
  match st, ho with
  | .inl n0 :: st, ho =>
    unfold st_newq at ho
    dsimp only at ho
    have main : ∀ k : Nat, (¬ n0 < 0) → n0.toNatClampNeg = k → k ≤ 65536 → (ax_sl a = some k ∨ ax_sl a = none) → ax_gd p l e R s mM args below meth c QF D dA Hb h0 ro ρ0 hF hS m (m, pc + 3, L, .inr (.inr (some (a, h.2.2.1 a))) :: st) (ax_new h a k) → ax_gd p l e R s mM args below meth c QF D dA Hb h0 ro ρ0 hF hS m (m, pc, L, .inl n0 :: st) h := by
      intro k hn0 hnk hk6 hsl ho
      have hcn : h.2.2.2.2.1 + 1 ≤ hF.2.2.2.2.1 ∧ h.2.2.2.2.2 + k ≤ hF.2.2.2.2.2 := ho.2.1
      refine ⟨rfl, ⟨by omega, by omega⟩, fun ρ H locs ls S => ?_⟩
      obtain ⟨S1, S2, S3, S4, S5, S6, S7, S8⟩ := S
      obtain ⟨-, S5⟩ := ax_fm1 S5
      have hρ : ∀ x y, y < h.2.2.1 x → ax_ext ρ a (h.2.2.1 a) H.size x y = ρ x y := fun x y h9 => ax_ext_ne (fun q => by obtain ⟨rfl, rfl⟩ := q; omega)
      have done : ∀ H1 : Heap, H1[H.size]? = some (arrV (dA b) k (fun _ => cond (Nat.ble 3 b) .null (.int 0))) → H1.size = H.size + 1 → (∀ q, q < H.size → H1[q]? = H[q]?) → W p l e R s mM args below meth c H1 locs (h.2.2.2.2.1 - hS.2.2.2.2.1 + 1) (h.2.2.2.2.2 - hS.2.2.2.2.2 + k) QF (F0 mM (pc + 3) ls (.ref H.size :: st.map (ax_cv ρ))) := by
        intro H1 e1 z1 o1
        have kk : W p l e R s mM args below meth c H1 locs ((ax_new h a k).2.2.2.2.1 - hS.2.2.2.2.1) ((ax_new h a k).2.2.2.2.2 - hS.2.2.2.2.2) QF (F0 mM (pc + 3) ls ((.inr (.inr (some (a, h.2.2.1 a))) :: st : List AV).map (ax_cv (ax_ext ρ a (h.2.2.1 a) H.size)))) := by
          refine ho.2.2 (ax_ext ρ a (h.2.2.1 a) H.size) H1 locs ls ⟨S1.one (n := k) hot z1 o1 rfl (fun x y j q => if_neg (fun z => q ⟨z.1, z.2.1⟩)) ?_ ?_, ?_, fun x => Nat.le_trans (S3 x) (ax_new_nle x), fun i v hi => (S4 i v hi).mono ax_new_nle, ax_fm (ax_al_r ax_new_lt) (fun v hv => (S5 v hv).mono ax_new_nle), S6.ext S4 hρ, S7, Nat.le_succ_of_le S8.1, Nat.le_trans S8.2 (Nat.le_add_right _ _)⟩
          · refine ⟨fun q => absurd q (by rw [hsk]; simp), fun _ => ?_⟩
            rw [ax_ext_eq, ax_new_len hsl, e1, hsk]
            congr 1
            exact ax_arrV_congr (fun j hj => (ax_new_ev hb8 hj).symm)
          · rw [ax_sz1 (by rw [hsk]), ax_new_len hsl]
            exact Nat.le_refl _
          · intro x y h9
            rw [hρ x y (Nat.lt_of_lt_of_le h9 (S3 x))]
            exact S2 x y h9
        have e5 : (ax_new h a k).2.2.2.2.1 - hS.2.2.2.2.1 = h.2.2.2.2.1 - hS.2.2.2.2.1 + 1 := by show h.2.2.2.2.1 + 1 - hS.2.2.2.2.1 = _; omega
        have e6 : (ax_new h a k).2.2.2.2.2 - hS.2.2.2.2.2 = h.2.2.2.2.2 - hS.2.2.2.2.2 + k := by show h.2.2.2.2.2 + k - hS.2.2.2.2.2 = _; omega
        rw [e5, e6, List.map_cons, ax_map_ext S5 hρ] at kk
        have e7 : ax_cv (ax_ext ρ a (h.2.2.1 a) H.size) (.inr (.inr (some (a, h.2.2.1 a)))) = .ref H.size := by
          show Value.ref (ax_ext ρ a (h.2.2.1 a) H.size a (h.2.2.1 a)) = _
          rw [ax_ext_eq]
        rw [e7] at kk
        exact kk
      unfold ax_sk2 at h4
      rw [Bool.and_eq_true, Bool.and_eq_true, decide_eq_true_eq] at h4
      have hlk := ax_kt_word (Nat.le_of_ble_eq_true h4.2.2)
      rw [Nat.eq_of_beq_eq_true h4.1, h4.2.1] at hlk
      have hao : va_AO (ax_cn (ax_tc b)) s := by
        match b, hb3, hb7 with
        | 3, _, _ => exact henv.2.2.2.2.2.2.2.1
        | 4, _, _ => exact henv.2.2.2.2.2.2.2.2.1
        | 5, _, _ => exact henv.2.2.2.2.2.2.2.2.2.1
        | 6, _, _ => exact henv.2.2.2.2.2.2.2.2.2.2.1
      subst hnk
      refine W.anew hx hb hown (hts _ hlk) (va_AO.use hao) rfl hd rfl hn0 (by omega) (by have := hrm.2.2.1; omega) (by have := hrm.2.2.2; omega) (fun cA kA comp f1 f2 f3 f4 => ?_)
      have hRA := (henv.1.2 b _ (ax_tys_get (by omega))).2
      rw [(ax_t2_obj hb3 (by omega)).1] at hRA
      obtain ⟨-, -, -, -, -, f5⟩ := hRA
      have hcA : cA = dA b := Option.some.inj (f1.symm.trans f5)
      subst hcA
      have hbl : Nat.ble 3 b = true := h2
      refine done _ ?_ (Array.size_push _) (fun q hq => by rw [Array.getElem?_push, if_neg (Nat.ne_of_lt hq)])
      rw [Array.getElem?_push_size, ← arrV_new, hbl]
      rfl
    unfold ax_sb at h5
    cases hsl : ax_sl a with
    | some k =>
      rw [hsl] at ho h5
      exact main k ho.1.1 ho.1.2 (Nat.le_of_ble_eq_true h5) (Or.inl hsl) ho.2
    | none =>
      rw [hsl] at ho
      exact ho.elim
theorem ax_s24 (X : ax_cx p l e R s mM args below meth c D dA Hb h0 ro d m hF hS) {nx a b : Nat} {n : Int32} {pc : Nat} {L : AL} {st : List AV} {h : AH} (hd : decode (ax_bc m) pc = .ok (ax_enc pc (24, nx, a, b, n), nx - pc)) (hs : ax_side m pc (24, nx, a, b, n) = true) (ho : ax_op (ax_call d) (ax_st (24, nx, a, b, n) m L st h) (ax_gd p l e R s mM args below meth c QF D dA Hb h0 ro ρ0 hF hS m) Q0) : ax_gd p l e R s mM args below meth c QF D dA Hb h0 ro ρ0 hF hS m (m, pc, L, st) h := by
  obtain ⟨hx, hb, hml, hown, hts, henv, hnm, hsb, hrm, hm⟩ := X
  change ax_op (ax_call d) (st_gets m nx a b L st h) (ax_gd p l e R s mM args below meth c QF D dA Hb h0 ro ρ0 hF hS m) Q0 at ho
  simp only [ax_side, Bool.and_eq_true] at hs
  obtain ⟨h1, h2⟩ := hs
  obtain rfl := ax_nxt h1
  rw [Nat.add_sub_cancel_left] at hd
  unfold ax_sg at h2
  obtain ⟨q, hq, h3⟩ := List.any_eq_true.mp h2
  rw [Bool.and_eq_true, Bool.and_eq_true, Bool.and_eq_true] at h3
  obtain ⟨g1, g2, g3, g4⟩ := h3
  have g1 := Nat.eq_of_beq_eq_true g1
  have g2 := Nat.eq_of_beq_eq_true g2
  have g3 := Nat.eq_of_beq_eq_true g3
  have g4 := Nat.eq_of_beq_eq_true g4
  have hdq : decode (ax_bc m) pc = .ok (.getstatic q.2.1, 3) := by rw [g2]; exact hd
  have hcl : ax_cn (ax_mc m) = ax_cn q.1 := by rw [g1]
  have stat : ∀ i, i < 3 → i = a → b = 0 → ((Cond.fieldLink (ax_cn q.1) q.2.1 "SymmetryTax" (ax_sn i) "[I").before args s = true ∨ ∃ hh, (Cond.fieldLinkNest (ax_cn q.1) q.2.1 "SymmetryTax" (ax_sn i) "[I" hh).before args s = true) → ax_gd p l e R s mM args below meth c QF D dA Hb h0 ro ρ0 hF hS m (m, pc, L, st) h := by
    intro i hi hia hb0 hl
    subst hia
    subst hb0
    have ho : ax_gd p l e R s mM args below meth c QF D dA Hb h0 ro ρ0 hF hS m (m, pc + 3, L, .inr (.inr (some (x_stat, i))) :: st) h := ho
    refine ⟨rfl, ho.2.1, fun ρ H locs ls S => ?_⟩
    have hn : h.2.2.1 x_stat = 3 := by rw [(S.1.2.2.2.2.1 x_stat ax_no_stat).2.2.1]; exact henv.2.2.2.2.2.1.1
    have k := ho.2.2 ρ H locs ls ⟨S.1, S.2.1, S.2.2.1, S.2.2.2.1, ax_fm (ax_al_r (by rw [hn]; exact hi)) S.2.2.2.2.1, S.2.2.2.2.2⟩
    have hro : ρ x_stat i = ro x_stat i := S.1.2.2.2.2.2 x_stat i ax_no_stat
    have k2 : W p l e R s mM args below meth c H locs (h.2.2.2.2.1 - hS.2.2.2.2.1) (h.2.2.2.2.2 - hS.2.2.2.2.2) QF (F0 mM (pc + 3) ls (.ref (ro x_stat i) :: st.map (ax_cv ρ))) := by rw [← hro]; exact k
    exact ax_wgets ⟨hx, hb, hml, hown, hts, henv, hnm, hsb, hrm, hm⟩ S.1 hcl (henv.2.2.2.2.1.1 i hi) hl hdq k2
  unfold ax_gst at hq
  simp only [List.mem_cons, List.not_mem_nil, or_false] at hq
  rcases hq with rfl | rfl | rfl | rfl | rfl
  · exact stat 0 (by decide) g3 g4.symm (Or.inr ⟨_, va_Nw.use rfl (henv.2.1 _ ax_w_gn)⟩)
  · exact stat 1 (by decide) g3 g4.symm (Or.inl (hts _ ax_w_gs.1))
  · exact stat 2 (by decide) g3 g4.symm (Or.inl (hts _ ax_w_gs.2.1))
  · obtain rfl := g4
    have ho : ax_gd p l e R s mM args below meth c QF D dA Hb h0 ro ρ0 hF hS m (m, pc + 3, L, .inl 1 :: st) h := ho
    refine ⟨rfl, ho.2.1, fun ρ H locs ls S => ?_⟩
    have k := ho.2.2 ρ H locs ls ⟨S.1, S.2.1, S.2.2.1, S.2.2.2.1, ax_fm ax_al_i S.2.2.2.2.1, S.2.2.2.2.2⟩
    exact ax_wgets ⟨hx, hb, hml, hown, hts, henv, hnm, hsb, hrm, hm⟩ S.1 hcl henv.2.2.2.2.1.2.1 (Or.inl (hts _ ax_w_gs.2.2.1)) hdq k
  · obtain rfl := g4
    have ho : ax_gd p l e R s mM args below meth c QF D dA Hb h0 ro ρ0 hF hS m (m, pc + 3, L, .inr (.inr (h.2.1 x_fmt 0 0)) :: st) h := ho
    refine ⟨rfl, ho.2.1, fun ρ H locs ls S => ?_⟩
    have ag := S.1.2.2.2.2.1 x_fmt ax_no_fmt
    have hn : h.2.2.1 x_fmt = 1 := by rw [ag.2.2.1]; exact henv.2.2.2.2.2.1.2.2.1
    have k := ho.2.2 ρ H locs ls ⟨S.1, S.2.1, S.2.2.1, S.2.2.2.1, ax_fm (ax_al_q (fun t1 a1 e1 => S.1.2.2.1 x_fmt 0 (by rw [hn]; decide) 0 (by show (0 : Nat) < 1; decide) t1 a1 e1)) S.2.2.2.2.1, S.2.2.2.2.2⟩
    have e1 : ax_rv ρ (h.2.1 x_fmt 0 0) = ax_rv ro (h0.2.1 x_fmt 0 0) := by
      rw [ag.2.1]
      exact ax_rv_congr (fun t b e => S.1.2.2.2.2.2 t b (henv.2.2.2.2.2.1.2.2.2.2 0 0 t b e))
    have k2 : W p l e R s mM args below meth c H locs (h.2.2.2.2.1 - hS.2.2.2.2.1) (h.2.2.2.2.2 - hS.2.2.2.2.2) QF (F0 mM (pc + 3) ls (ax_rv ro (h0.2.1 x_fmt 0 0) :: st.map (ax_cv ρ))) := by rw [← e1]; exact k
    exact ax_wgets ⟨hx, hb, hml, hown, hts, henv, hnm, hsb, hrm, hm⟩ S.1 hcl henv.2.2.2.2.1.2.2 (Or.inl (hts _ ax_w_gs.2.2.2)) hdq k2
theorem ax_s45 (X : ax_cx p l e R s mM args below meth c D dA Hb h0 ro d m hF hS) {nx a b : Nat} {n : Int32} {pc : Nat} {L : AL} {st : List AV} {h : AH} (hd : decode (ax_bc m) pc = .ok (ax_enc pc (45, nx, a, b, n), nx - pc)) (hs : ax_side m pc (45, nx, a, b, n) = true) (ho : ax_op (ax_call d) (ax_st (45, nx, a, b, n) m L st h) (ax_gd p l e R s mM args below meth c QF D dA Hb h0 ro ρ0 hF hS m) Q0) : ax_gd p l e R s mM args below meth c QF D dA Hb h0 ro ρ0 hF hS m (m, pc, L, st) h := by
  obtain ⟨hx, hb, hml, hown, hts, henv, hnm, hsb, hrm, hm⟩ := X
  change ax_op (ax_call d) (st_cas m nx L st h) (ax_gd p l e R s mM args below meth c QF D dA Hb h0 ro ρ0 hF hS m) Q0 at ho
  simp only [ax_side, Bool.and_eq_true] at hs
  obtain ⟨h1, h2⟩ := hs
  obtain rfl := ax_nxt h1
  rw [Nat.add_sub_cancel_left] at hd
  match st, ho with
  | .inr (.inr (some (t, o))) :: st, ho =>
    unfold st_cas at ho
    dsimp only at ho
    cases hoc : ax_a1 t 0 with
    | false => rw [hoc] at ho; exact ho.elim
    | true =>
      rw [hoc] at ho
      have ho : ax_gd p l e R s mM args below meth c QF D dA Hb h0 ro ρ0 hF hS m (m, pc + 3, L, .inr (.inr (some (t, o))) :: st) h := ho
      refine ⟨rfl, ho.2.1, fun ρ H locs ls S => ?_⟩
      have k := ho.2.2 ρ H locs ls S
      obtain ⟨S1, S2, S3, S4, S5, S6⟩ := S
      have hlt := (ax_fm1 S5).1 t o rfl
      unfold ax_a1 at hoc
      rw [Bool.and_eq_true] at hoc
      have hk1 := Nat.eq_of_beq_eq_true hoc.1
      have hz := Nat.eq_of_beq_eq_true hoc.2
      have e1 := (S1.1 t o (by unfold ax_own; omega) hlt).1.2 hk1
      rw [hz] at e1
      have hnm : s.vm.findClass "[I" = some (dA 0) := (henv.1.2 0 _ (ax_tys_get (by decide))).2
      unfold ax_sk2 at h2
      rw [Bool.and_eq_true, Bool.and_eq_true, decide_eq_true_eq] at h2
      have hlk := ax_kt_word (Nat.le_of_ble_eq_true h2.2.2)
      rw [Nat.eq_of_beq_eq_true h2.1, h2.2.1] at hlk
      intro T hT X
      obtain ⟨vm', X', st'⟩ := X.checkcastYes hx hown (hts _ hlk) (by rw [hT]; exact e1) rfl hnm (va_asg _ _) (g := F0 mM pc ls (.ref (ρ t o) :: st.map (ax_cv ρ))) rfl rfl (by rw [hb]; exact hd)
      obtain ⟨t2, a1, b1⟩ := k (T.setVm vm') hT X'
      exact ⟨t2, st' t2 a1, b1⟩
theorem ax_s53 (X : ax_cx p l e R s mM args below meth c D dA Hb h0 ro d m hF hS) {nx a b : Nat} {n : Int32} {pc : Nat} {L : AL} {st : List AV} {h : AH} (hd : decode (ax_bc m) pc = .ok (ax_enc pc (53, nx, a, b, n), nx - pc)) (hs : ax_side m pc (53, nx, a, b, n) = true) (ho : ax_op (ax_call d) (ax_st (53, nx, a, b, n) m L st h) (ax_gd p l e R s mM args below meth c QF D dA Hb h0 ro ρ0 hF hS m) Q0) : ax_gd p l e R s mM args below meth c QF D dA Hb h0 ro ρ0 hF hS m (m, pc, L, st) h := by
  obtain ⟨hx, hb, hml, hown, hts, henv, hnm, hsb, hrm, hm⟩ := X
  change ax_op (ax_call d) (st_mm m nx b L st h) (ax_gd p l e R s mM args below meth c QF D dA Hb h0 ro ρ0 hF hS m) Q0 at ho
  simp only [ax_side, Bool.and_eq_true, decide_eq_true_eq] at hs
  obtain ⟨h1, h2, h3⟩ := hs
  obtain rfl := ax_nxt h1
  rw [Nat.add_sub_cancel_left] at hd
  have hb2 : b < 2 := Nat.le_of_ble_eq_true h2
  match st, ho with
  | .inl y :: .inl x :: st, ho =>
    unfold st_mm at ho
    dsimp only at ho
    cases hoc : Nat.ble (ax_w st) 8 with
    | false => rw [hoc] at ho; exact ho.elim
    | true =>
      rw [hoc] at ho
      have ho : ax_gd p l e R s mM args below meth c QF D dA Hb h0 ro ρ0 hF hS m (m, pc + 3, L, .inl (ax_mm b x y) :: st) h := ho
      have hw8 := Nat.le_of_ble_eq_true hoc
      refine ⟨rfl, ho.2.1, fun ρ H locs ls S => ?_⟩
      obtain ⟨S1, S2, S3, S4, S5, S6, S7, S8⟩ := S
      have k := ho.2.2 ρ H locs ls ⟨S1, S2, S3, S4, ax_fm ax_al_i (ax_fm1 (ax_fm1 S5).2).2, S6, S7, S8⟩
      have hcn := ho.2.1
      match b, hb2, hd, h3, k with
      | 0, _, hd, h3, k => exact va_mmin hx hb (by rw [hml]; exact S6.1.symm) hown (hts _ h3) (hts _ ax_w_mn.1) (hts _ ax_w_mn.2.1) (hts _ ax_w_mn.2.2) (by omega) (by rw [ax_sum_w]; omega) (by omega) (by omega) hd k
      | 1, _, hd, h3, k => exact va_mmax hx hb (by rw [hml]; exact S6.1.symm) hown (hts _ h3) (hts _ ax_w_mx.1) (hts _ ax_w_mx.2.1) (hts _ ax_w_mx.2.2) (by omega) (by rw [ax_sum_w]; omega) (by omega) (by omega) hd k
end SND
