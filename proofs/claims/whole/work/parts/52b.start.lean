/-! the law's run from its start -/
def MFacts (gi : GI) (g : AG) (h : AH) : Prop := ST wl_ff gi g 12 0 h.1 h.2 ∧ (∀ t, ¬ (63 ≤ t ∧ t ≤ 86) → h.2.2.1 t = g.2.1 t) ∧ (h.2.1 12 0 2 = some (63, 0) ∧ h.2.1 12 0 3 = some (64, 0) ∧ h.2.1 12 0 4 = some (65, 0) ∧ h.2.1 12 0 5 = some (66, 0) ∧ h.2.1 12 0 7 = some (67, 0) ∧ h.2.1 12 0 8 = some (68, 0) ∧ h.2.1 12 0 9 = some (69, 0) ∧ h.2.1 12 0 12 = some (70, 0) ∧ h.2.1 12 0 13 = some (71, 0) ∧ h.2.1 12 0 14 = some (72, 0) ∧ h.2.1 12 0 22 = some (73, 0) ∧ h.2.1 12 0 23 = some (74, 0) ∧ h.2.1 12 0 29 = some (75, 0) ∧ h.2.1 12 0 30 = some (76, 0) ∧ h.2.1 12 0 31 = some (77, 0) ∧ h.2.1 12 0 37 = some (78, 0) ∧ h.2.1 12 0 38 = some (79, 0) ∧ h.2.1 12 0 39 = some (80, 0) ∧ h.2.1 12 0 40 = some (81, 0) ∧ h.2.1 12 0 41 = some (82, 0) ∧ h.2.1 12 0 43 = some (83, 0) ∧ h.2.1 12 0 46 = some (84, 0) ∧ h.2.1 12 0 47 = some (85, 0) ∧ h.2.1 12 0 48 = some (86, 0)) ∧ h.1 12 0 11 = -1 ∧ h.1 12 0 34 = -1 ∧ WordsOK h.1 ∧ (h.1 64 0 794 = n32 1 ∧ h.1 64 0 795 = n32 5 ∧ h.1 64 0 798 = -1) ∧ h.2.2.2.2.1 = g.2.2.2.1 + 24 ∧ h.2.2.2.2.2 = g.2.2.2.2 + 19776
theorem n_Mall {d : Nat} {gi : GI} {g : AG} (hU : RU wl_ff g) (hZ : ZS gi) (hw : 0 < g.2.1 12) (h0 : ∀ t, 63 ≤ t → t ≤ 86 → g.2.1 t = 0) : ax_call (d + 1) m_M_init [.inr (.inr (some (12, 0)))] (gi, g) (fun r h => r = none ∧ MFacts gi g h) :=
  n_M hU hZ hw h0 (fun _ _ s c f2 f3 f4 f5 f7 f8 f9 f12 f13 f14 f22 f23 f29 f30 f31 f37 f38 f39 f40 f41 f43 f46 f47 f48 i11 i34 w m a l => ⟨rfl, s, c, ⟨f2, f3, f4, f5, f7, f8, f9, f12, f13, f14, f22, f23, f29, f30, f31, f37, f38, f39, f40, f41, f43, f46, f47, f48⟩, i11, i34, w, m, a, l⟩)
theorem law_runs {d L : Nat} {xs : Nat → Int32} {fo : AR} (hL : L ≤ 3072) : Runs (d + 70) (ax_entry m_L_law [.inr (.inr (some (102, 0)))]) (wl_h0 L xs fo) (fun r h => r = some (.inl 1) ∧ h.2.2.2.2.1 ≤ 1200000 ∧ h.2.2.2.2.2 ≤ 5502250) := by
  show Runs (d + 70) (m_L_law, 0, [some (.inr (.inr (some (102, 0)))), none, none, none], []) (wl_gi xs, (wl_gr fo, wl_gn, wl_gl L, 0, 0)) _
  generalize hQ : (fun (r : Option AV) (h : AH) => r = some (.inl 1) ∧ h.2.2.2.2.1 ≤ 1200000 ∧ h.2.2.2.2.2 ≤ 5502250) = Q
  rw [b_L_law_0]
  have hw0 : 0 < wl_gn 100 := by decide
  refine K_new (gi := wl_gi xs) (g := (wl_gr fo, wl_gn, wl_gl L, 0, 0)) (s := 0) (n := 18) (c := 100) (w := 0) (K := fun h => Fx (wl_h0 L xs fo) h → Runs (d + 70) (m_L_law, 3, [some (.inr (.inr (some (102, 0)))), none, none, none], [.inr (.inr (some (0, 0)))]) h Q) (ST_refl (RU0 fo L) (ZS0 xs)) hw0 (fun gi1 g1 s1 c1 i1 r1 o1 a1 l1 hF1 => ?_) (hb := by intro j h; unfold BG at h; omega) (Fx_new (h := wl_h0 L xs fo) (by unfold ax_own; decide))
  have c1 : ∀ t, g1.2.1 t = if t = 0 then wl_gn t + 1 else wl_gn t := c1
  have z1 : ∀ t, 1 ≤ t → t < 100 → g1.2.1 t = 0 := fun t q1 q2 => by rw [c1 t, if_neg (by omega), wl_low t q2]
  have z0 : g1.2.1 0 = 1 := by rw [c1 0, if_pos rfl, wl_low 0 (by omega)]
  have z100 : 0 < g1.2.1 100 := by rw [c1 100, if_neg (by omega)]; exact hw0
  rw [b_L_law_3]
  refine ax_call_Q (fx_call (d + 70) _ _ _ _ (n_S (d := d + 66) s1.2.1 s1.2.2.1 z0 (fun t q1 q2 _ => z1 t q1 (by omega)) z100)) (fun r h4 q => ?_)
  obtain ⟨gi4, g4⟩ := h4
  obtain ⟨hF4, rfl, gi2, g2, s2, hR, hI, hN, a2, l2, hP⟩ := q
  have hF14 : Fx (wl_h0 L xs fo) (gi4, g4) := Fx_trans hF1 hF4
  have hP' := hP
  have hN' := hN
  obtain ⟨sP, kP, -, -, -, -, aP, lP⟩ := hP
  have aP : g4.2.2.2.1 ≤ g2.2.2.2.1 + 14 * 6 := aP
  have lP : g4.2.2.2.2 ≤ g2.2.2.2.2 + 620 * 6 := lP
  have nO := hN.2.2.2.2.2.2.2.2.2.2.2.2.2.2.2.2.2
  have z4 : ∀ t, t = 4 ∨ t = 12 ∨ (60 ≤ t ∧ t < 100) → g4.2.1 t = 0 := fun t ht => by rw [kP t (by omega), nO t (by omega), z1 t (by omega) (by omega)]
  have y100 : 0 < g4.2.1 100 := by rw [kP 100 (by omega), nO 100 (by omega)]; exact z100
  have y0 : g2.2.1 0 = 1 := by rw [nO 0 (by omega), z0]
  rw [ax_psh_none, b_L_law_7, z4 12 (by omega)]
  refine K_new (gi := gi4) (g := g4) (s := 12) (n := 51) (c := 100) (w := 0) (K := fun h => Fx (gi4, g4) h → Runs (d + 70) (m_L_law, 11, [some (.inr (.inr (some (102, 0)))), some (.inr (.inr (some (0, 0)))), none, none], [.inr (.inr (some (12, 0)))]) h Q) (ST_refl sP.2.1 sP.2.2.1) y100 (fun gi5 g5 s5 c5 i5 r5 o5 a5 l5 hF5 => ?_) (hb := by intro j h; unfold BG at h; omega) (Fx_new (by unfold ax_own; decide))
  rw [b_L_law_11]
  have w12 : g5.2.1 12 = 1 := by rw [c5 12, if_pos rfl, z4 12 (by omega)]
  refine ax_call_Q (fx_call (d + 70) _ _ _ _ (n_Mall (d := d + 69) s5.2.1 s5.2.2.1 (by omega) (fun t q1 q2 => by rw [c5 t, if_neg (by omega), z4 t (by omega)]))) (fun r h6 q => ?_)
  obtain ⟨gi6, g6⟩ := h6
  obtain ⟨hF6, rfl, s6, k6, ⟨f2, f3, f4, f5, f7, f8, f9, f12, f13, f14, f22, f23, f29, f30, f31, f37, f38, f39, f40, f41, f43, f46, f47, f48⟩, m11, m34, hW, ⟨m4, m5, m7⟩, a6, l6⟩ := q
  have hF : Fx (wl_h0 L xs fo) (gi6, g6) := Fx_trans hF14 (Fx_trans hF5 hF6)
  have s6 : ST wl_ff gi5 g5 12 0 gi6 g6 := s6
  have k6 : ∀ t, ¬ (63 ≤ t ∧ t ≤ 86) → g6.2.1 t = g5.2.1 t := k6
  have a6 : g6.2.2.2.1 = g5.2.2.2.1 + 24 := a6
  have l6 : g6.2.2.2.2 = g5.2.2.2.2 + 19776 := l6
  have o6 : ∀ t a j, a < g4.2.1 t → ¬ (t = 12 ∧ a = 0) → gi6 t a j = gi4 t a j ∧ g6.1 t a j = g4.1 t a j := fun t a j ha hn => by
    have e5 := o5 t a j ha
    have e6 := s6.1 t a j (Nat.lt_of_lt_of_le ha (s5.2.2.2 t)) hn
    exact ⟨e6.1.trans e5.1, e6.2.trans e5.2⟩
  have c6 : ∀ t, ¬ (t = 12 ∨ (63 ≤ t ∧ t ≤ 86)) → g6.2.1 t = g4.2.1 t := fun t ht => by rw [k6 t (by omega), c5 t, if_neg (by omega)]
  have hG : GOK g6 := gok_fin (gi1 := gi1) hR hN' y0 hP' o6 s6.2.1 c6 (by rw [k6 12 (by omega), w12]) f2 f3 f4 f5 f7 f8 f9 f12 f13 f14 f22 f23 f29 f30 f31 f37 f38 f39 f40 f41 f43 f46 f47 f48
  -- ints
  have tI : ∀ t a j, a < g2.2.1 t → ¬ (t = 12 ∧ a = 0) → ¬ (t = 25 ∧ a = 0) → gi6 t a j = gi2 t a j := fun t a j ha h12 h25 => by
    have h4 := Nat.lt_of_lt_of_le ha (sP.2.2.2 t)
    rw [(o6 t a j h4 h12).1]
    exact (sP.1 t a j ha h25).1
  obtain ⟨n1, n2, n5, n6, n7, n8, n9, n10, n11, n20, n25, n26, n27, n28, n29, n30, n47, -⟩ := hN
  obtain ⟨j0, j8, j9, j10, j1, j28⟩ := hI
  have k100 : gi1 100 = wl_gi xs 100 := (hF1 100 (by unfold ax_own; decide)).1
  rw [k100] at j28
  have cB : ∀ t, t = 1 ∨ t = 2 ∨ (26 ≤ t ∧ t ≤ 30) → g6.2.1 t = g2.2.1 t := fun t q => by rw [c6 t (by omega), kP t (by omega)]
  have hI0 : Inv 0 gi6 g6 := inv0 hG s6.2.2.1 s6.2.1.2 ⟨⟨(cB 1 (by omega)).trans n1, (cB 26 (by omega)).trans n26, (cB 27 (by omega)).trans n27, (cB 28 (by omega)).trans n28⟩, (cB 2 (by omega)).trans n2, (cB 29 (by omega)).trans n29, (cB 30 (by omega)).trans n30⟩ (str_fx hF) (stat_fx hF) hW (by rw [c6 4 (by omega), z4 4 (by omega)]) (by rw [c6 60 (by omega), z4 60 (by omega)]) (by rw [c6 61 (by omega), z4 61 (by omega)]) (by rw [c6 62 (by omega), z4 62 (by omega)]) (by
    have e1 : g1.2.2.2.1 = 0 + 1 := a1
    omega) (by
    have e1 : g1.2.2.2.2 = 0 + 18 := l1
    omega) ((tI 0 0 5 (by omega) (by omega) (by omega)).trans j0) ((tI 8 0 4 (by omega) (by omega) (by omega)).trans j8) ((tI 9 0 5 (by omega) (by omega) (by omega)).trans j9) ((tI 10 0 0 (by omega) (by omega) (by omega)).trans j10) ((tI 1 0 4 (by omega) (by omega) (by omega)).trans j1) ((tI 28 0 0 (by omega) (by omega) (by omega)).trans (j28 0 (by omega))) ((tI 28 0 1 (by omega) (by omega) (by omega)).trans (j28 1 (by omega))) ((tI 28 0 2 (by omega) (by omega) (by omega)).trans (j28 2 (by omega))) ((tI 28 0 3 (by omega) (by omega) (by omega)).trans (j28 3 (by omega))) m11 m34 m4 m5 m7
  have hL6 : g6.2.2.1 102 0 = L := by
    have e : g6.2.2.1 102 = wl_gl L 102 := (hF 102 own102).2.2.2
    rw [e]
    rfl
  rw [ax_psh_none, b_L_law_15]
  refine law_loop (d := d + 70) (by omega) hL (fun gi' g' hI' => ?_) 0 (Nat.zero_le _) gi6 g6 hI0 hL6
  obtain ⟨Ls, hC, -⟩ := hI'
  obtain ⟨-, hce, hsl⟩ := hC.1.2.2.2.2
  rw [← hQ]
  refine ⟨rfl, ?_, ?_⟩
  · show g'.2.2.2.1 ≤ _
    omega
  · show g'.2.2.2.2 ≤ _
    omega
theorem whole_start {p : Program} {e : Env} {s : State} {m : MethodId} {below : List Frame} {meth : Method} {c : Code} (l : Launch) (_hflags : l.flags = flags0) {b L : Nat} {xs : Nat → Int32} (hL : L ≤ 3072) (C0 : lw_At p s m meth c b L xs) : W p l e room_1 s m #[Value.ref b] below meth c s.heap [] 0 0 (lw_Z below #[Value.ref b] s) (entryFrame m ([Value.ref b] : List Value).toArray 4) :=
  wl_start l hL C0 (d := 0 + 70) (by omega) (fun _ _ => law_runs hL)
