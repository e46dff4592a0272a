/-! the reference's constructor: all of it -/
set_option maxRecDepth 100000 in
theorem n_M {d : Nat} {F : Nat → Nat → Nat → AR} {gi : GI} {g : AG} {Q : Option AV → AH → Prop} (hU : RU F g) (hZ : ZS gi) (hw : 0 < g.2.1 12) (h0 : ∀ t, 63 ≤ t → t ≤ 86 → g.2.1 t = 0)
    (hq : ∀ (gi' : GI) (g' : AG), ST F gi g 12 0 gi' g' → (∀ t, ¬ (63 ≤ t ∧ t ≤ 86) → g'.2.1 t = g.2.1 t) → g'.1 12 0 2 = some (63, 0) → g'.1 12 0 3 = some (64, 0) → g'.1 12 0 4 = some (65, 0) → g'.1 12 0 5 = some (66, 0) → g'.1 12 0 7 = some (67, 0) → g'.1 12 0 8 = some (68, 0) → g'.1 12 0 9 = some (69, 0) → g'.1 12 0 12 = some (70, 0) → g'.1 12 0 13 = some (71, 0) → g'.1 12 0 14 = some (72, 0) → g'.1 12 0 22 = some (73, 0) → g'.1 12 0 23 = some (74, 0) → g'.1 12 0 29 = some (75, 0) → g'.1 12 0 30 = some (76, 0) → g'.1 12 0 31 = some (77, 0) → g'.1 12 0 37 = some (78, 0) → g'.1 12 0 38 = some (79, 0) → g'.1 12 0 39 = some (80, 0) → g'.1 12 0 40 = some (81, 0) → g'.1 12 0 41 = some (82, 0) → g'.1 12 0 43 = some (83, 0) → g'.1 12 0 46 = some (84, 0) → g'.1 12 0 47 = some (85, 0) → g'.1 12 0 48 = some (86, 0) → gi' 12 0 11 = -1 → gi' 12 0 34 = -1 → WordsOK gi' → (gi' 64 0 794 = n32 1 ∧ gi' 64 0 795 = n32 5 ∧ gi' 64 0 798 = -1) → g'.2.2.2.1 = g.2.2.2.1 + 24 → g'.2.2.2.2 = g.2.2.2.2 + 19776 → Q none (gi', g')) :
    ax_call (d + 1) m_M_init [.inr (.inr (some (12, 0)))] (gi, g) Q := by
  have s0 : ST F gi g 12 0 gi g := ST_refl hU hZ
  rw [e_M_init]
  rw [b_M_init_0]
  refine ⟨nn 7 (by omega), ?_⟩
  refine K_new (K := fun h => Runs _ _ h _) s0 hw (fun gi1 g1 s1 c1 i1 r1 o1 a1 l1 => ?_)
  rw [b_M_init_9]
  refine ⟨nn 5605 (by omega), ?_⟩
  refine K_pn (K := fun h => Runs _ _ h _) s1 hw (fun gi2 g2 s2 c2 i2 r2 p2 o2 a2 l2 => ?_)
  have P2 : g2.1 12 0 2 = some (63, 0) := p2.trans (by rw [h0 63 (by omega) (by omega)])
  rw [b_M_init_18]
  refine ⟨nn 11210 (by omega), ?_⟩
  refine K_pn (K := fun h => Runs _ _ h _) s2 hw (fun gi3 g3 s3 c3 i3 r3 p3 o3 a3 l3 => ?_)
  have P2 : g3.1 12 0 2 = some (63, 0) := (r3 2 (by decide)).trans P2
  have P3 : g3.1 12 0 3 = some (64, 0) := p3.trans (by rw [c1 64, if_neg (by decide), h0 64 (by omega) (by omega)])
  rw [b_M_init_27]
  refine ⟨nn 2 (by omega), ?_⟩
  refine K_pn (K := fun h => Runs _ _ h _) s3 hw (fun gi4 g4 s4 c4 i4 r4 p4 o4 a4 l4 => ?_)
  have P2 : g4.1 12 0 2 = some (63, 0) := (r4 2 (by decide)).trans P2
  have P3 : g4.1 12 0 3 = some (64, 0) := (r4 3 (by decide)).trans P3
  have P4 : g4.1 12 0 4 = some (65, 0) := p4.trans (by rw [c2 65, if_neg (by decide), c1 65, if_neg (by decide), h0 65 (by omega) (by omega)])
  rw [b_M_init_34]
  refine ⟨nn 65 (by omega), ?_⟩
  refine K_pn (K := fun h => Runs _ _ h _) s4 hw (fun gi5 g5 s5 c5 i5 r5 p5 o5 a5 l5 => ?_)
  have P2 : g5.1 12 0 2 = some (63, 0) := (r5 2 (by decide)).trans P2
  have P3 : g5.1 12 0 3 = some (64, 0) := (r5 3 (by decide)).trans P3
  have P4 : g5.1 12 0 4 = some (65, 0) := (r5 4 (by decide)).trans P4
  have P5 : g5.1 12 0 5 = some (66, 0) := p5.trans (by rw [c3 66, if_neg (by decide), c2 66, if_neg (by decide), c1 66, if_neg (by decide), h0 66 (by omega) (by omega)])
  have N67 : 0 < g5.2.1 67 := by rw [c5 67, if_pos rfl]; exact Nat.succ_pos _
  rw [b_M_init_42]
  have e67 : g4.2.1 67 = 0 := by rw [c4 67, if_neg (by decide), c3 67, if_neg (by decide), c2 67, if_neg (by decide), c1 67, if_neg (by decide), h0 67 (by omega) (by omega)]
  rw [e67]
  refine ⟨n32_in (by omega) (by omega), n32_in (by omega) (by omega), n32_in (by omega) (by omega), n32_in (by omega) (by omega), n32_in (by omega) (by omega), n32_in (by omega) (by omega), n32_in (by omega) (by omega), n32_in (by omega) (by omega), n32_in (by omega) (by omega), n32_in (by omega) (by omega), n32_in (by omega) (by omega), n32_in (by omega) (by omega), n32_in (by omega) (by omega), n32_in (by omega) (by omega), n32_in (by omega) (by omega), n32_in (by omega) (by omega), n32_in (by omega) (by omega), n32_in (by omega) (by omega), n32_in (by omega) (by omega), n32_in (by omega) (by omega), n32_in (by omega) (by omega), n32_in (by omega) (by omega), n32_in (by omega) (by omega), n32_in (by omega) (by omega), n32_in (by omega) (by omega), n32_in (by omega) (by omega), n32_in (by omega) (by omega), n32_in (by omega) (by omega), n32_in (by omega) (by omega), n32_in (by omega) (by omega), n32_in (by omega) (by omega), n32_in (by omega) (by omega), n32_in (by omega) (by omega), n32_in (by omega) (by omega), n32_in (by omega) (by omega), n32_in (by omega) (by omega), n32_in (by omega) (by omega), n32_in (by omega) (by omega), n32_in (by omega) (by omega), n32_in (by omega) (by omega), n32_in (by omega) (by omega), n32_in (by omega) (by omega), n32_in (by omega) (by omega), n32_in (by omega) (by omega), n32_in (by omega) (by omega), n32_in (by omega) (by omega), n32_in (by omega) (by omega), n32_in (by omega) (by omega), n32_in (by omega) (by omega), n32_in (by omega) (by omega), n32_in (by omega) (by omega), n32_in (by omega) (by omega), n32_in (by omega) (by omega), n32_in (by omega) (by omega), n32_in (by omega) (by omega), n32_in (by omega) (by omega), n32_in (by omega) (by omega), n32_in (by omega) (by omega), n32_in (by omega) (by omega), n32_in (by omega) (by omega), n32_in (by omega) (by omega), n32_in (by omega) (by omega), n32_in (by omega) (by omega), n32_in (by omega) (by omega), n32_in (by omega) (by omega), nn 400 (by omega), ?_⟩
  rw [wdG_eq]
  refine K_pn (K := fun h => Runs _ _ h _) (ST_wdG s5 (Nat.le_of_eq (h0 67 (by omega) (by omega)))) hw (fun gi6 g6 s6 c6 i6 r6 p6 o6 a6 l6 => ?_)
  have P2 : g6.1 12 0 2 = some (63, 0) := (r6 2 (by decide)).trans P2
  have P3 : g6.1 12 0 3 = some (64, 0) := (r6 3 (by decide)).trans P3
  have P4 : g6.1 12 0 4 = some (65, 0) := (r6 4 (by decide)).trans P4
  have P5 : g6.1 12 0 5 = some (66, 0) := (r6 5 (by decide)).trans P5
  have P7 : g6.1 12 0 7 = some (67, 0) := p6
  have W : ∀ j, j < 65 → gi6 67 0 j = n32 (wbs.getD j 0) := fun j hj => ((o6 67 0 j N67).1).trans (wdG_at _ j hj)
  have N67 : 0 < g6.2.1 67 := by rw [c6 67, if_neg (by decide)]; exact N67
  rw [b_M_init_435]
  refine ⟨nn 5 (by omega), ?_⟩
  refine K_pn (K := fun h => Runs _ _ h _) s6 hw (fun gi7 g7 s7 c7 i7 r7 p7 o7 a7 l7 => ?_)
  have P2 : g7.1 12 0 2 = some (63, 0) := (r7 2 (by decide)).trans P2
  have P3 : g7.1 12 0 3 = some (64, 0) := (r7 3 (by decide)).trans P3
  have P4 : g7.1 12 0 4 = some (65, 0) := (r7 4 (by decide)).trans P4
  have P5 : g7.1 12 0 5 = some (66, 0) := (r7 5 (by decide)).trans P5
  have P7 : g7.1 12 0 7 = some (67, 0) := (r7 7 (by decide)).trans P7
  have P8 : g7.1 12 0 8 = some (68, 0) := p7.trans (by rw [c5 68, if_neg (by decide), c4 68, if_neg (by decide), c3 68, if_neg (by decide), c2 68, if_neg (by decide), c1 68, if_neg (by decide), h0 68 (by omega) (by omega)])
  have W : ∀ j, j < 65 → gi7 67 0 j = n32 (wbs.getD j 0) := fun j hj => ((o7 67 0 j N67).1).trans (W j hj)
  have N67 : 0 < g7.2.1 67 := by rw [c7 67, if_neg (by decide)]; exact N67
  rw [b_M_init_442]
  refine ⟨nn 401 (by omega), ?_⟩
  have J11 : (ax_wI gi7 12 0 11 (-1)) 12 0 11 = -1 := wI_self _ _ _ _ _
  refine K_pn (K := fun h => Runs _ _ h _) (ST_wI s7 (k := 11) (v := -1) (Or.inr (by unfold DZ; omega))) hw (fun gi8 g8 s8 c8 i8 r8 p8 o8 a8 l8 => ?_)
  have P2 : g8.1 12 0 2 = some (63, 0) := (r8 2 (by decide)).trans P2
  have P3 : g8.1 12 0 3 = some (64, 0) := (r8 3 (by decide)).trans P3
  have P4 : g8.1 12 0 4 = some (65, 0) := (r8 4 (by decide)).trans P4
  have P5 : g8.1 12 0 5 = some (66, 0) := (r8 5 (by decide)).trans P5
  have P7 : g8.1 12 0 7 = some (67, 0) := (r8 7 (by decide)).trans P7
  have P8 : g8.1 12 0 8 = some (68, 0) := (r8 8 (by decide)).trans P8
  have P9 : g8.1 12 0 9 = some (69, 0) := p8.trans (by rw [c6 69, if_neg (by decide), c5 69, if_neg (by decide), c4 69, if_neg (by decide), c3 69, if_neg (by decide), c2 69, if_neg (by decide), c1 69, if_neg (by decide), h0 69 (by omega) (by omega)])
  have I11 : gi8 12 0 11 = -1 := (i8 11).trans J11
  have W : ∀ j, j < 65 → gi8 67 0 j = n32 (wbs.getD j 0) := fun j hj => ((o8 67 0 j N67).1).trans ((wI_ne (by decide) _ _ _ _ _).trans (W j hj))
  have N67 : 0 < g8.2.1 67 := by rw [c8 67, if_neg (by decide)]; exact N67
  rw [b_M_init_456]
  refine ⟨nn 401 (by omega), ?_⟩
  have J11 : gi8 12 0 11 = -1 := I11
  refine K_pn (K := fun h => Runs _ _ h _) s8 hw (fun gi9 g9 s9 c9 i9 r9 p9 o9 a9 l9 => ?_)
  have P2 : g9.1 12 0 2 = some (63, 0) := (r9 2 (by decide)).trans P2
  have P3 : g9.1 12 0 3 = some (64, 0) := (r9 3 (by decide)).trans P3
  have P4 : g9.1 12 0 4 = some (65, 0) := (r9 4 (by decide)).trans P4
  have P5 : g9.1 12 0 5 = some (66, 0) := (r9 5 (by decide)).trans P5
  have P7 : g9.1 12 0 7 = some (67, 0) := (r9 7 (by decide)).trans P7
  have P8 : g9.1 12 0 8 = some (68, 0) := (r9 8 (by decide)).trans P8
  have P9 : g9.1 12 0 9 = some (69, 0) := (r9 9 (by decide)).trans P9
  have P12 : g9.1 12 0 12 = some (70, 0) := p9.trans (by rw [c7 70, if_neg (by decide), c6 70, if_neg (by decide), c5 70, if_neg (by decide), c4 70, if_neg (by decide), c3 70, if_neg (by decide), c2 70, if_neg (by decide), c1 70, if_neg (by decide), h0 70 (by omega) (by omega)])
  have I11 : gi9 12 0 11 = -1 := (i9 11).trans J11
  have W : ∀ j, j < 65 → gi9 67 0 j = n32 (wbs.getD j 0) := fun j hj => ((o9 67 0 j N67).1).trans (W j hj)
  have N67 : 0 < g9.2.1 67 := by rw [c9 67, if_neg (by decide)]; exact N67
  rw [b_M_init_465]
  refine ⟨nn 401 (by omega), ?_⟩
  have J11 : gi9 12 0 11 = -1 := I11
  refine K_pn (K := fun h => Runs _ _ h _) s9 hw (fun gi10 g10 s10 c10 i10 r10 p10 o10 a10 l10 => ?_)
  have P2 : g10.1 12 0 2 = some (63, 0) := (r10 2 (by decide)).trans P2
  have P3 : g10.1 12 0 3 = some (64, 0) := (r10 3 (by decide)).trans P3
  have P4 : g10.1 12 0 4 = some (65, 0) := (r10 4 (by decide)).trans P4
  have P5 : g10.1 12 0 5 = some (66, 0) := (r10 5 (by decide)).trans P5
  have P7 : g10.1 12 0 7 = some (67, 0) := (r10 7 (by decide)).trans P7
  have P8 : g10.1 12 0 8 = some (68, 0) := (r10 8 (by decide)).trans P8
  have P9 : g10.1 12 0 9 = some (69, 0) := (r10 9 (by decide)).trans P9
  have P12 : g10.1 12 0 12 = some (70, 0) := (r10 12 (by decide)).trans P12
  have P13 : g10.1 12 0 13 = some (71, 0) := p10.trans (by rw [c8 71, if_neg (by decide), c7 71, if_neg (by decide), c6 71, if_neg (by decide), c5 71, if_neg (by decide), c4 71, if_neg (by decide), c3 71, if_neg (by decide), c2 71, if_neg (by decide), c1 71, if_neg (by decide), h0 71 (by omega) (by omega)])
  have I11 : gi10 12 0 11 = -1 := (i10 11).trans J11
  have W : ∀ j, j < 65 → gi10 67 0 j = n32 (wbs.getD j 0) := fun j hj => ((o10 67 0 j N67).1).trans (W j hj)
  have N67 : 0 < g10.2.1 67 := by rw [c10 67, if_neg (by decide)]; exact N67
  rw [b_M_init_474]
  refine ⟨nn 8 (by omega), ?_⟩
  have J11 : gi10 12 0 11 = -1 := I11
  refine K_pn (K := fun h => Runs _ _ h _) s10 hw (fun gi11 g11 s11 c11 i11 r11 p11 o11 a11 l11 => ?_)
  have P2 : g11.1 12 0 2 = some (63, 0) := (r11 2 (by decide)).trans P2
  have P3 : g11.1 12 0 3 = some (64, 0) := (r11 3 (by decide)).trans P3
  have P4 : g11.1 12 0 4 = some (65, 0) := (r11 4 (by decide)).trans P4
  have P5 : g11.1 12 0 5 = some (66, 0) := (r11 5 (by decide)).trans P5
  have P7 : g11.1 12 0 7 = some (67, 0) := (r11 7 (by decide)).trans P7
  have P8 : g11.1 12 0 8 = some (68, 0) := (r11 8 (by decide)).trans P8
  have P9 : g11.1 12 0 9 = some (69, 0) := (r11 9 (by decide)).trans P9
  have P12 : g11.1 12 0 12 = some (70, 0) := (r11 12 (by decide)).trans P12
  have P13 : g11.1 12 0 13 = some (71, 0) := (r11 13 (by decide)).trans P13
  have P14 : g11.1 12 0 14 = some (72, 0) := p11.trans (by rw [c9 72, if_neg (by decide), c8 72, if_neg (by decide), c7 72, if_neg (by decide), c6 72, if_neg (by decide), c5 72, if_neg (by decide), c4 72, if_neg (by decide), c3 72, if_neg (by decide), c2 72, if_neg (by decide), c1 72, if_neg (by decide), h0 72 (by omega) (by omega)])
  have I11 : gi11 12 0 11 = -1 := (i11 11).trans J11
  have W : ∀ j, j < 65 → gi11 67 0 j = n32 (wbs.getD j 0) := fun j hj => ((o11 67 0 j N67).1).trans (W j hj)
  have N67 : 0 < g11.2.1 67 := by rw [c11 67, if_neg (by decide)]; exact N67
  rw [b_M_init_482]
  refine ⟨nn 64 (by omega), ?_⟩
  have J11 : gi11 12 0 11 = -1 := I11
  refine K_pn (K := fun h => Runs _ _ h _) s11 hw (fun gi12 g12 s12 c12 i12 r12 p12 o12 a12 l12 => ?_)
  have P2 : g12.1 12 0 2 = some (63, 0) := (r12 2 (by decide)).trans P2
  have P3 : g12.1 12 0 3 = some (64, 0) := (r12 3 (by decide)).trans P3
  have P4 : g12.1 12 0 4 = some (65, 0) := (r12 4 (by decide)).trans P4
  have P5 : g12.1 12 0 5 = some (66, 0) := (r12 5 (by decide)).trans P5
  have P7 : g12.1 12 0 7 = some (67, 0) := (r12 7 (by decide)).trans P7
  have P8 : g12.1 12 0 8 = some (68, 0) := (r12 8 (by decide)).trans P8
  have P9 : g12.1 12 0 9 = some (69, 0) := (r12 9 (by decide)).trans P9
  have P12 : g12.1 12 0 12 = some (70, 0) := (r12 12 (by decide)).trans P12
  have P13 : g12.1 12 0 13 = some (71, 0) := (r12 13 (by decide)).trans P13
  have P14 : g12.1 12 0 14 = some (72, 0) := (r12 14 (by decide)).trans P14
  have P22 : g12.1 12 0 22 = some (73, 0) := p12.trans (by rw [c10 73, if_neg (by decide), c9 73, if_neg (by decide), c8 73, if_neg (by decide), c7 73, if_neg (by decide), c6 73, if_neg (by decide), c5 73, if_neg (by decide), c4 73, if_neg (by decide), c3 73, if_neg (by decide), c2 73, if_neg (by decide), c1 73, if_neg (by decide), h0 73 (by omega) (by omega)])
  have I11 : gi12 12 0 11 = -1 := (i12 11).trans J11
  have W : ∀ j, j < 65 → gi12 67 0 j = n32 (wbs.getD j 0) := fun j hj => ((o12 67 0 j N67).1).trans (W j hj)
  have N67 : 0 < g12.2.1 67 := by rw [c12 67, if_neg (by decide)]; exact N67
  rw [b_M_init_490]
  refine ⟨nn 64 (by omega), ?_⟩
  have J11 : gi12 12 0 11 = -1 := I11
  refine K_pn (K := fun h => Runs _ _ h _) s12 hw (fun gi13 g13 s13 c13 i13 r13 p13 o13 a13 l13 => ?_)
  have P2 : g13.1 12 0 2 = some (63, 0) := (r13 2 (by decide)).trans P2
  have P3 : g13.1 12 0 3 = some (64, 0) := (r13 3 (by decide)).trans P3
  have P4 : g13.1 12 0 4 = some (65, 0) := (r13 4 (by decide)).trans P4
  have P5 : g13.1 12 0 5 = some (66, 0) := (r13 5 (by decide)).trans P5
  have P7 : g13.1 12 0 7 = some (67, 0) := (r13 7 (by decide)).trans P7
  have P8 : g13.1 12 0 8 = some (68, 0) := (r13 8 (by decide)).trans P8
  have P9 : g13.1 12 0 9 = some (69, 0) := (r13 9 (by decide)).trans P9
  have P12 : g13.1 12 0 12 = some (70, 0) := (r13 12 (by decide)).trans P12
  have P13 : g13.1 12 0 13 = some (71, 0) := (r13 13 (by decide)).trans P13
  have P14 : g13.1 12 0 14 = some (72, 0) := (r13 14 (by decide)).trans P14
  have P22 : g13.1 12 0 22 = some (73, 0) := (r13 22 (by decide)).trans P22
  have P23 : g13.1 12 0 23 = some (74, 0) := p13.trans (by rw [c11 74, if_neg (by decide), c10 74, if_neg (by decide), c9 74, if_neg (by decide), c8 74, if_neg (by decide), c7 74, if_neg (by decide), c6 74, if_neg (by decide), c5 74, if_neg (by decide), c4 74, if_neg (by decide), c3 74, if_neg (by decide), c2 74, if_neg (by decide), c1 74, if_neg (by decide), h0 74 (by omega) (by omega)])
  have I11 : gi13 12 0 11 = -1 := (i13 11).trans J11
  have W : ∀ j, j < 65 → gi13 67 0 j = n32 (wbs.getD j 0) := fun j hj => ((o13 67 0 j N67).1).trans (W j hj)
  have N67 : 0 < g13.2.1 67 := by rw [c13 67, if_neg (by decide)]; exact N67
  rw [b_M_init_498]
  refine ⟨nn 10 (by omega), ?_⟩
  have J11 : gi13 12 0 11 = -1 := I11
  refine K_pn (K := fun h => Runs _ _ h _) s13 hw (fun gi14 g14 s14 c14 i14 r14 p14 o14 a14 l14 => ?_)
  have P2 : g14.1 12 0 2 = some (63, 0) := (r14 2 (by decide)).trans P2
  have P3 : g14.1 12 0 3 = some (64, 0) := (r14 3 (by decide)).trans P3
  have P4 : g14.1 12 0 4 = some (65, 0) := (r14 4 (by decide)).trans P4
  have P5 : g14.1 12 0 5 = some (66, 0) := (r14 5 (by decide)).trans P5
  have P7 : g14.1 12 0 7 = some (67, 0) := (r14 7 (by decide)).trans P7
  have P8 : g14.1 12 0 8 = some (68, 0) := (r14 8 (by decide)).trans P8
  have P9 : g14.1 12 0 9 = some (69, 0) := (r14 9 (by decide)).trans P9
  have P12 : g14.1 12 0 12 = some (70, 0) := (r14 12 (by decide)).trans P12
  have P13 : g14.1 12 0 13 = some (71, 0) := (r14 13 (by decide)).trans P13
  have P14 : g14.1 12 0 14 = some (72, 0) := (r14 14 (by decide)).trans P14
  have P22 : g14.1 12 0 22 = some (73, 0) := (r14 22 (by decide)).trans P22
  have P23 : g14.1 12 0 23 = some (74, 0) := (r14 23 (by decide)).trans P23
  have P29 : g14.1 12 0 29 = some (75, 0) := p14.trans (by rw [c12 75, if_neg (by decide), c11 75, if_neg (by decide), c10 75, if_neg (by decide), c9 75, if_neg (by decide), c8 75, if_neg (by decide), c7 75, if_neg (by decide), c6 75, if_neg (by decide), c5 75, if_neg (by decide), c4 75, if_neg (by decide), c3 75, if_neg (by decide), c2 75, if_neg (by decide), c1 75, if_neg (by decide), h0 75 (by omega) (by omega)])
  have I11 : gi14 12 0 11 = -1 := (i14 11).trans J11
  have W : ∀ j, j < 65 → gi14 67 0 j = n32 (wbs.getD j 0) := fun j hj => ((o14 67 0 j N67).1).trans (W j hj)
  have N67 : 0 < g14.2.1 67 := by rw [c14 67, if_neg (by decide)]; exact N67
  rw [b_M_init_506]
  refine ⟨nn 3 (by omega), ?_⟩
  have J11 : gi14 12 0 11 = -1 := I11
  refine K_pn (K := fun h => Runs _ _ h _) s14 hw (fun gi15 g15 s15 c15 i15 r15 p15 o15 a15 l15 => ?_)
  have P2 : g15.1 12 0 2 = some (63, 0) := (r15 2 (by decide)).trans P2
  have P3 : g15.1 12 0 3 = some (64, 0) := (r15 3 (by decide)).trans P3
  have P4 : g15.1 12 0 4 = some (65, 0) := (r15 4 (by decide)).trans P4
  have P5 : g15.1 12 0 5 = some (66, 0) := (r15 5 (by decide)).trans P5
  have P7 : g15.1 12 0 7 = some (67, 0) := (r15 7 (by decide)).trans P7
  have P8 : g15.1 12 0 8 = some (68, 0) := (r15 8 (by decide)).trans P8
  have P9 : g15.1 12 0 9 = some (69, 0) := (r15 9 (by decide)).trans P9
  have P12 : g15.1 12 0 12 = some (70, 0) := (r15 12 (by decide)).trans P12
  have P13 : g15.1 12 0 13 = some (71, 0) := (r15 13 (by decide)).trans P13
  have P14 : g15.1 12 0 14 = some (72, 0) := (r15 14 (by decide)).trans P14
  have P22 : g15.1 12 0 22 = some (73, 0) := (r15 22 (by decide)).trans P22
  have P23 : g15.1 12 0 23 = some (74, 0) := (r15 23 (by decide)).trans P23
  have P29 : g15.1 12 0 29 = some (75, 0) := (r15 29 (by decide)).trans P29
  have P30 : g15.1 12 0 30 = some (76, 0) := p15.trans (by rw [c13 76, if_neg (by decide), c12 76, if_neg (by decide), c11 76, if_neg (by decide), c10 76, if_neg (by decide), c9 76, if_neg (by decide), c8 76, if_neg (by decide), c7 76, if_neg (by decide), c6 76, if_neg (by decide), c5 76, if_neg (by decide), c4 76, if_neg (by decide), c3 76, if_neg (by decide), c2 76, if_neg (by decide), c1 76, if_neg (by decide), h0 76 (by omega) (by omega)])
  have I11 : gi15 12 0 11 = -1 := (i15 11).trans J11
  have W : ∀ j, j < 65 → gi15 67 0 j = n32 (wbs.getD j 0) := fun j hj => ((o15 67 0 j N67).1).trans (W j hj)
  have N67 : 0 < g15.2.1 67 := by rw [c15 67, if_neg (by decide)]; exact N67
  rw [b_M_init_513]
  refine ⟨nn 6 (by omega), ?_⟩
  have J11 : (ax_wI gi15 12 0 34 (-1)) 12 0 11 = -1 := by rw [wI_at, if_neg (by omega)]; exact I11
  have J34 : (ax_wI gi15 12 0 34 (-1)) 12 0 34 = -1 := wI_self _ _ _ _ _
  refine K_pn (K := fun h => Runs _ _ h _) (ST_wI s15 (k := 34) (v := -1) (Or.inr (by unfold DZ; omega))) hw (fun gi16 g16 s16 c16 i16 r16 p16 o16 a16 l16 => ?_)
  have P2 : g16.1 12 0 2 = some (63, 0) := (r16 2 (by decide)).trans P2
  have P3 : g16.1 12 0 3 = some (64, 0) := (r16 3 (by decide)).trans P3
  have P4 : g16.1 12 0 4 = some (65, 0) := (r16 4 (by decide)).trans P4
  have P5 : g16.1 12 0 5 = some (66, 0) := (r16 5 (by decide)).trans P5
  have P7 : g16.1 12 0 7 = some (67, 0) := (r16 7 (by decide)).trans P7
  have P8 : g16.1 12 0 8 = some (68, 0) := (r16 8 (by decide)).trans P8
  have P9 : g16.1 12 0 9 = some (69, 0) := (r16 9 (by decide)).trans P9
  have P12 : g16.1 12 0 12 = some (70, 0) := (r16 12 (by decide)).trans P12
  have P13 : g16.1 12 0 13 = some (71, 0) := (r16 13 (by decide)).trans P13
  have P14 : g16.1 12 0 14 = some (72, 0) := (r16 14 (by decide)).trans P14
  have P22 : g16.1 12 0 22 = some (73, 0) := (r16 22 (by decide)).trans P22
  have P23 : g16.1 12 0 23 = some (74, 0) := (r16 23 (by decide)).trans P23
  have P29 : g16.1 12 0 29 = some (75, 0) := (r16 29 (by decide)).trans P29
  have P30 : g16.1 12 0 30 = some (76, 0) := (r16 30 (by decide)).trans P30
  have P31 : g16.1 12 0 31 = some (77, 0) := p16.trans (by rw [c14 77, if_neg (by decide), c13 77, if_neg (by decide), c12 77, if_neg (by decide), c11 77, if_neg (by decide), c10 77, if_neg (by decide), c9 77, if_neg (by decide), c8 77, if_neg (by decide), c7 77, if_neg (by decide), c6 77, if_neg (by decide), c5 77, if_neg (by decide), c4 77, if_neg (by decide), c3 77, if_neg (by decide), c2 77, if_neg (by decide), c1 77, if_neg (by decide), h0 77 (by omega) (by omega)])
  have I11 : gi16 12 0 11 = -1 := (i16 11).trans J11
  have I34 : gi16 12 0 34 = -1 := (i16 34).trans J34
  have W : ∀ j, j < 65 → gi16 67 0 j = n32 (wbs.getD j 0) := fun j hj => ((o16 67 0 j N67).1).trans ((wI_ne (by decide) _ _ _ _ _).trans (W j hj))
  have N67 : 0 < g16.2.1 67 := by rw [c16 67, if_neg (by decide)]; exact N67
  rw [b_M_init_526]
  refine ⟨nn 6 (by omega), ?_⟩
  have J11 : gi16 12 0 11 = -1 := I11
  have J34 : gi16 12 0 34 = -1 := I34
  refine K_pn (K := fun h => Runs _ _ h _) s16 hw (fun gi17 g17 s17 c17 i17 r17 p17 o17 a17 l17 => ?_)
  have P2 : g17.1 12 0 2 = some (63, 0) := (r17 2 (by decide)).trans P2
  have P3 : g17.1 12 0 3 = some (64, 0) := (r17 3 (by decide)).trans P3
  have P4 : g17.1 12 0 4 = some (65, 0) := (r17 4 (by decide)).trans P4
  have P5 : g17.1 12 0 5 = some (66, 0) := (r17 5 (by decide)).trans P5
  have P7 : g17.1 12 0 7 = some (67, 0) := (r17 7 (by decide)).trans P7
  have P8 : g17.1 12 0 8 = some (68, 0) := (r17 8 (by decide)).trans P8
  have P9 : g17.1 12 0 9 = some (69, 0) := (r17 9 (by decide)).trans P9
  have P12 : g17.1 12 0 12 = some (70, 0) := (r17 12 (by decide)).trans P12
  have P13 : g17.1 12 0 13 = some (71, 0) := (r17 13 (by decide)).trans P13
  have P14 : g17.1 12 0 14 = some (72, 0) := (r17 14 (by decide)).trans P14
  have P22 : g17.1 12 0 22 = some (73, 0) := (r17 22 (by decide)).trans P22
  have P23 : g17.1 12 0 23 = some (74, 0) := (r17 23 (by decide)).trans P23
  have P29 : g17.1 12 0 29 = some (75, 0) := (r17 29 (by decide)).trans P29
  have P30 : g17.1 12 0 30 = some (76, 0) := (r17 30 (by decide)).trans P30
  have P31 : g17.1 12 0 31 = some (77, 0) := (r17 31 (by decide)).trans P31
  have P37 : g17.1 12 0 37 = some (78, 0) := p17.trans (by rw [c15 78, if_neg (by decide), c14 78, if_neg (by decide), c13 78, if_neg (by decide), c12 78, if_neg (by decide), c11 78, if_neg (by decide), c10 78, if_neg (by decide), c9 78, if_neg (by decide), c8 78, if_neg (by decide), c7 78, if_neg (by decide), c6 78, if_neg (by decide), c5 78, if_neg (by decide), c4 78, if_neg (by decide), c3 78, if_neg (by decide), c2 78, if_neg (by decide), c1 78, if_neg (by decide), h0 78 (by omega) (by omega)])
  have I11 : gi17 12 0 11 = -1 := (i17 11).trans J11
  have I34 : gi17 12 0 34 = -1 := (i17 34).trans J34
  have W : ∀ j, j < 65 → gi17 67 0 j = n32 (wbs.getD j 0) := fun j hj => ((o17 67 0 j N67).1).trans (W j hj)
  have N67 : 0 < g17.2.1 67 := by rw [c17 67, if_neg (by decide)]; exact N67
  rw [b_M_init_534]
  refine ⟨nn 6 (by omega), ?_⟩
  have J11 : gi17 12 0 11 = -1 := I11
  have J34 : gi17 12 0 34 = -1 := I34
  refine K_pn (K := fun h => Runs _ _ h _) s17 hw (fun gi18 g18 s18 c18 i18 r18 p18 o18 a18 l18 => ?_)
  have P2 : g18.1 12 0 2 = some (63, 0) := (r18 2 (by decide)).trans P2
  have P3 : g18.1 12 0 3 = some (64, 0) := (r18 3 (by decide)).trans P3
  have P4 : g18.1 12 0 4 = some (65, 0) := (r18 4 (by decide)).trans P4
  have P5 : g18.1 12 0 5 = some (66, 0) := (r18 5 (by decide)).trans P5
  have P7 : g18.1 12 0 7 = some (67, 0) := (r18 7 (by decide)).trans P7
  have P8 : g18.1 12 0 8 = some (68, 0) := (r18 8 (by decide)).trans P8
  have P9 : g18.1 12 0 9 = some (69, 0) := (r18 9 (by decide)).trans P9
  have P12 : g18.1 12 0 12 = some (70, 0) := (r18 12 (by decide)).trans P12
  have P13 : g18.1 12 0 13 = some (71, 0) := (r18 13 (by decide)).trans P13
  have P14 : g18.1 12 0 14 = some (72, 0) := (r18 14 (by decide)).trans P14
  have P22 : g18.1 12 0 22 = some (73, 0) := (r18 22 (by decide)).trans P22
  have P23 : g18.1 12 0 23 = some (74, 0) := (r18 23 (by decide)).trans P23
  have P29 : g18.1 12 0 29 = some (75, 0) := (r18 29 (by decide)).trans P29
  have P30 : g18.1 12 0 30 = some (76, 0) := (r18 30 (by decide)).trans P30
  have P31 : g18.1 12 0 31 = some (77, 0) := (r18 31 (by decide)).trans P31
  have P37 : g18.1 12 0 37 = some (78, 0) := (r18 37 (by decide)).trans P37
  have P38 : g18.1 12 0 38 = some (79, 0) := p18.trans (by rw [c16 79, if_neg (by decide), c15 79, if_neg (by decide), c14 79, if_neg (by decide), c13 79, if_neg (by decide), c12 79, if_neg (by decide), c11 79, if_neg (by decide), c10 79, if_neg (by decide), c9 79, if_neg (by decide), c8 79, if_neg (by decide), c7 79, if_neg (by decide), c6 79, if_neg (by decide), c5 79, if_neg (by decide), c4 79, if_neg (by decide), c3 79, if_neg (by decide), c2 79, if_neg (by decide), c1 79, if_neg (by decide), h0 79 (by omega) (by omega)])
  have I11 : gi18 12 0 11 = -1 := (i18 11).trans J11
  have I34 : gi18 12 0 34 = -1 := (i18 34).trans J34
  have W : ∀ j, j < 65 → gi18 67 0 j = n32 (wbs.getD j 0) := fun j hj => ((o18 67 0 j N67).1).trans (W j hj)
  have N67 : 0 < g18.2.1 67 := by rw [c18 67, if_neg (by decide)]; exact N67
  rw [b_M_init_542]
  refine ⟨nn 6 (by omega), ?_⟩
  have J11 : gi18 12 0 11 = -1 := I11
  have J34 : gi18 12 0 34 = -1 := I34
  refine K_pn (K := fun h => Runs _ _ h _) s18 hw (fun gi19 g19 s19 c19 i19 r19 p19 o19 a19 l19 => ?_)
  have P2 : g19.1 12 0 2 = some (63, 0) := (r19 2 (by decide)).trans P2
  have P3 : g19.1 12 0 3 = some (64, 0) := (r19 3 (by decide)).trans P3
  have P4 : g19.1 12 0 4 = some (65, 0) := (r19 4 (by decide)).trans P4
  have P5 : g19.1 12 0 5 = some (66, 0) := (r19 5 (by decide)).trans P5
  have P7 : g19.1 12 0 7 = some (67, 0) := (r19 7 (by decide)).trans P7
  have P8 : g19.1 12 0 8 = some (68, 0) := (r19 8 (by decide)).trans P8
  have P9 : g19.1 12 0 9 = some (69, 0) := (r19 9 (by decide)).trans P9
  have P12 : g19.1 12 0 12 = some (70, 0) := (r19 12 (by decide)).trans P12
  have P13 : g19.1 12 0 13 = some (71, 0) := (r19 13 (by decide)).trans P13
  have P14 : g19.1 12 0 14 = some (72, 0) := (r19 14 (by decide)).trans P14
  have P22 : g19.1 12 0 22 = some (73, 0) := (r19 22 (by decide)).trans P22
  have P23 : g19.1 12 0 23 = some (74, 0) := (r19 23 (by decide)).trans P23
  have P29 : g19.1 12 0 29 = some (75, 0) := (r19 29 (by decide)).trans P29
  have P30 : g19.1 12 0 30 = some (76, 0) := (r19 30 (by decide)).trans P30
  have P31 : g19.1 12 0 31 = some (77, 0) := (r19 31 (by decide)).trans P31
  have P37 : g19.1 12 0 37 = some (78, 0) := (r19 37 (by decide)).trans P37
  have P38 : g19.1 12 0 38 = some (79, 0) := (r19 38 (by decide)).trans P38
  have P39 : g19.1 12 0 39 = some (80, 0) := p19.trans (by rw [c17 80, if_neg (by decide), c16 80, if_neg (by decide), c15 80, if_neg (by decide), c14 80, if_neg (by decide), c13 80, if_neg (by decide), c12 80, if_neg (by decide), c11 80, if_neg (by decide), c10 80, if_neg (by decide), c9 80, if_neg (by decide), c8 80, if_neg (by decide), c7 80, if_neg (by decide), c6 80, if_neg (by decide), c5 80, if_neg (by decide), c4 80, if_neg (by decide), c3 80, if_neg (by decide), c2 80, if_neg (by decide), c1 80, if_neg (by decide), h0 80 (by omega) (by omega)])
  have I11 : gi19 12 0 11 = -1 := (i19 11).trans J11
  have I34 : gi19 12 0 34 = -1 := (i19 34).trans J34
  have W : ∀ j, j < 65 → gi19 67 0 j = n32 (wbs.getD j 0) := fun j hj => ((o19 67 0 j N67).1).trans (W j hj)
  have N67 : 0 < g19.2.1 67 := by rw [c19 67, if_neg (by decide)]; exact N67
  rw [b_M_init_550]
  refine ⟨nn 36 (by omega), ?_⟩
  have J11 : gi19 12 0 11 = -1 := I11
  have J34 : gi19 12 0 34 = -1 := I34
  refine K_pn (K := fun h => Runs _ _ h _) s19 hw (fun gi20 g20 s20 c20 i20 r20 p20 o20 a20 l20 => ?_)
  have P2 : g20.1 12 0 2 = some (63, 0) := (r20 2 (by decide)).trans P2
  have P3 : g20.1 12 0 3 = some (64, 0) := (r20 3 (by decide)).trans P3
  have P4 : g20.1 12 0 4 = some (65, 0) := (r20 4 (by decide)).trans P4
  have P5 : g20.1 12 0 5 = some (66, 0) := (r20 5 (by decide)).trans P5
  have P7 : g20.1 12 0 7 = some (67, 0) := (r20 7 (by decide)).trans P7
  have P8 : g20.1 12 0 8 = some (68, 0) := (r20 8 (by decide)).trans P8
  have P9 : g20.1 12 0 9 = some (69, 0) := (r20 9 (by decide)).trans P9
  have P12 : g20.1 12 0 12 = some (70, 0) := (r20 12 (by decide)).trans P12
  have P13 : g20.1 12 0 13 = some (71, 0) := (r20 13 (by decide)).trans P13
  have P14 : g20.1 12 0 14 = some (72, 0) := (r20 14 (by decide)).trans P14
  have P22 : g20.1 12 0 22 = some (73, 0) := (r20 22 (by decide)).trans P22
  have P23 : g20.1 12 0 23 = some (74, 0) := (r20 23 (by decide)).trans P23
  have P29 : g20.1 12 0 29 = some (75, 0) := (r20 29 (by decide)).trans P29
  have P30 : g20.1 12 0 30 = some (76, 0) := (r20 30 (by decide)).trans P30
  have P31 : g20.1 12 0 31 = some (77, 0) := (r20 31 (by decide)).trans P31
  have P37 : g20.1 12 0 37 = some (78, 0) := (r20 37 (by decide)).trans P37
  have P38 : g20.1 12 0 38 = some (79, 0) := (r20 38 (by decide)).trans P38
  have P39 : g20.1 12 0 39 = some (80, 0) := (r20 39 (by decide)).trans P39
  have P40 : g20.1 12 0 40 = some (81, 0) := p20.trans (by rw [c18 81, if_neg (by decide), c17 81, if_neg (by decide), c16 81, if_neg (by decide), c15 81, if_neg (by decide), c14 81, if_neg (by decide), c13 81, if_neg (by decide), c12 81, if_neg (by decide), c11 81, if_neg (by decide), c10 81, if_neg (by decide), c9 81, if_neg (by decide), c8 81, if_neg (by decide), c7 81, if_neg (by decide), c6 81, if_neg (by decide), c5 81, if_neg (by decide), c4 81, if_neg (by decide), c3 81, if_neg (by decide), c2 81, if_neg (by decide), c1 81, if_neg (by decide), h0 81 (by omega) (by omega)])
  have I11 : gi20 12 0 11 = -1 := (i20 11).trans J11
  have I34 : gi20 12 0 34 = -1 := (i20 34).trans J34
  have W : ∀ j, j < 65 → gi20 67 0 j = n32 (wbs.getD j 0) := fun j hj => ((o20 67 0 j N67).1).trans (W j hj)
  have N67 : 0 < g20.2.1 67 := by rw [c20 67, if_neg (by decide)]; exact N67
  rw [b_M_init_558]
  refine ⟨nn 6 (by omega), ?_⟩
  have J11 : gi20 12 0 11 = -1 := I11
  have J34 : gi20 12 0 34 = -1 := I34
  refine K_pn (K := fun h => Runs _ _ h _) s20 hw (fun gi21 g21 s21 c21 i21 r21 p21 o21 a21 l21 => ?_)
  have P2 : g21.1 12 0 2 = some (63, 0) := (r21 2 (by decide)).trans P2
  have P3 : g21.1 12 0 3 = some (64, 0) := (r21 3 (by decide)).trans P3
  have P4 : g21.1 12 0 4 = some (65, 0) := (r21 4 (by decide)).trans P4
  have P5 : g21.1 12 0 5 = some (66, 0) := (r21 5 (by decide)).trans P5
  have P7 : g21.1 12 0 7 = some (67, 0) := (r21 7 (by decide)).trans P7
  have P8 : g21.1 12 0 8 = some (68, 0) := (r21 8 (by decide)).trans P8
  have P9 : g21.1 12 0 9 = some (69, 0) := (r21 9 (by decide)).trans P9
  have P12 : g21.1 12 0 12 = some (70, 0) := (r21 12 (by decide)).trans P12
  have P13 : g21.1 12 0 13 = some (71, 0) := (r21 13 (by decide)).trans P13
  have P14 : g21.1 12 0 14 = some (72, 0) := (r21 14 (by decide)).trans P14
  have P22 : g21.1 12 0 22 = some (73, 0) := (r21 22 (by decide)).trans P22
  have P23 : g21.1 12 0 23 = some (74, 0) := (r21 23 (by decide)).trans P23
  have P29 : g21.1 12 0 29 = some (75, 0) := (r21 29 (by decide)).trans P29
  have P30 : g21.1 12 0 30 = some (76, 0) := (r21 30 (by decide)).trans P30
  have P31 : g21.1 12 0 31 = some (77, 0) := (r21 31 (by decide)).trans P31
  have P37 : g21.1 12 0 37 = some (78, 0) := (r21 37 (by decide)).trans P37
  have P38 : g21.1 12 0 38 = some (79, 0) := (r21 38 (by decide)).trans P38
  have P39 : g21.1 12 0 39 = some (80, 0) := (r21 39 (by decide)).trans P39
  have P40 : g21.1 12 0 40 = some (81, 0) := (r21 40 (by decide)).trans P40
  have P41 : g21.1 12 0 41 = some (82, 0) := p21.trans (by rw [c19 82, if_neg (by decide), c18 82, if_neg (by decide), c17 82, if_neg (by decide), c16 82, if_neg (by decide), c15 82, if_neg (by decide), c14 82, if_neg (by decide), c13 82, if_neg (by decide), c12 82, if_neg (by decide), c11 82, if_neg (by decide), c10 82, if_neg (by decide), c9 82, if_neg (by decide), c8 82, if_neg (by decide), c7 82, if_neg (by decide), c6 82, if_neg (by decide), c5 82, if_neg (by decide), c4 82, if_neg (by decide), c3 82, if_neg (by decide), c2 82, if_neg (by decide), c1 82, if_neg (by decide), h0 82 (by omega) (by omega)])
  have I11 : gi21 12 0 11 = -1 := (i21 11).trans J11
  have I34 : gi21 12 0 34 = -1 := (i21 34).trans J34
  have W : ∀ j, j < 65 → gi21 67 0 j = n32 (wbs.getD j 0) := fun j hj => ((o21 67 0 j N67).1).trans (W j hj)
  have N67 : 0 < g21.2.1 67 := by rw [c21 67, if_neg (by decide)]; exact N67
  rw [b_M_init_566]
  refine ⟨nn 640 (by omega), ?_⟩
  have J11 : gi21 12 0 11 = -1 := I11
  have J34 : gi21 12 0 34 = -1 := I34
  refine K_pn (K := fun h => Runs _ _ h _) s21 hw (fun gi22 g22 s22 c22 i22 r22 p22 o22 a22 l22 => ?_)
  have P2 : g22.1 12 0 2 = some (63, 0) := (r22 2 (by decide)).trans P2
  have P3 : g22.1 12 0 3 = some (64, 0) := (r22 3 (by decide)).trans P3
  have P4 : g22.1 12 0 4 = some (65, 0) := (r22 4 (by decide)).trans P4
  have P5 : g22.1 12 0 5 = some (66, 0) := (r22 5 (by decide)).trans P5
  have P7 : g22.1 12 0 7 = some (67, 0) := (r22 7 (by decide)).trans P7
  have P8 : g22.1 12 0 8 = some (68, 0) := (r22 8 (by decide)).trans P8
  have P9 : g22.1 12 0 9 = some (69, 0) := (r22 9 (by decide)).trans P9
  have P12 : g22.1 12 0 12 = some (70, 0) := (r22 12 (by decide)).trans P12
  have P13 : g22.1 12 0 13 = some (71, 0) := (r22 13 (by decide)).trans P13
  have P14 : g22.1 12 0 14 = some (72, 0) := (r22 14 (by decide)).trans P14
  have P22 : g22.1 12 0 22 = some (73, 0) := (r22 22 (by decide)).trans P22
  have P23 : g22.1 12 0 23 = some (74, 0) := (r22 23 (by decide)).trans P23
  have P29 : g22.1 12 0 29 = some (75, 0) := (r22 29 (by decide)).trans P29
  have P30 : g22.1 12 0 30 = some (76, 0) := (r22 30 (by decide)).trans P30
  have P31 : g22.1 12 0 31 = some (77, 0) := (r22 31 (by decide)).trans P31
  have P37 : g22.1 12 0 37 = some (78, 0) := (r22 37 (by decide)).trans P37
  have P38 : g22.1 12 0 38 = some (79, 0) := (r22 38 (by decide)).trans P38
  have P39 : g22.1 12 0 39 = some (80, 0) := (r22 39 (by decide)).trans P39
  have P40 : g22.1 12 0 40 = some (81, 0) := (r22 40 (by decide)).trans P40
  have P41 : g22.1 12 0 41 = some (82, 0) := (r22 41 (by decide)).trans P41
  have P43 : g22.1 12 0 43 = some (83, 0) := p22.trans (by rw [c20 83, if_neg (by decide), c19 83, if_neg (by decide), c18 83, if_neg (by decide), c17 83, if_neg (by decide), c16 83, if_neg (by decide), c15 83, if_neg (by decide), c14 83, if_neg (by decide), c13 83, if_neg (by decide), c12 83, if_neg (by decide), c11 83, if_neg (by decide), c10 83, if_neg (by decide), c9 83, if_neg (by decide), c8 83, if_neg (by decide), c7 83, if_neg (by decide), c6 83, if_neg (by decide), c5 83, if_neg (by decide), c4 83, if_neg (by decide), c3 83, if_neg (by decide), c2 83, if_neg (by decide), c1 83, if_neg (by decide), h0 83 (by omega) (by omega)])
  have I11 : gi22 12 0 11 = -1 := (i22 11).trans J11
  have I34 : gi22 12 0 34 = -1 := (i22 34).trans J34
  have W : ∀ j, j < 65 → gi22 67 0 j = n32 (wbs.getD j 0) := fun j hj => ((o22 67 0 j N67).1).trans (W j hj)
  have N67 : 0 < g22.2.1 67 := by rw [c22 67, if_neg (by decide)]; exact N67
  rw [b_M_init_575]
  refine ⟨nn 40 (by omega), ?_⟩
  have J11 : gi22 12 0 11 = -1 := I11
  have J34 : gi22 12 0 34 = -1 := I34
  refine K_pn (K := fun h => Runs _ _ h _) s22 hw (fun gi23 g23 s23 c23 i23 r23 p23 o23 a23 l23 => ?_)
  have P2 : g23.1 12 0 2 = some (63, 0) := (r23 2 (by decide)).trans P2
  have P3 : g23.1 12 0 3 = some (64, 0) := (r23 3 (by decide)).trans P3
  have P4 : g23.1 12 0 4 = some (65, 0) := (r23 4 (by decide)).trans P4
  have P5 : g23.1 12 0 5 = some (66, 0) := (r23 5 (by decide)).trans P5
  have P7 : g23.1 12 0 7 = some (67, 0) := (r23 7 (by decide)).trans P7
  have P8 : g23.1 12 0 8 = some (68, 0) := (r23 8 (by decide)).trans P8
  have P9 : g23.1 12 0 9 = some (69, 0) := (r23 9 (by decide)).trans P9
  have P12 : g23.1 12 0 12 = some (70, 0) := (r23 12 (by decide)).trans P12
  have P13 : g23.1 12 0 13 = some (71, 0) := (r23 13 (by decide)).trans P13
  have P14 : g23.1 12 0 14 = some (72, 0) := (r23 14 (by decide)).trans P14
  have P22 : g23.1 12 0 22 = some (73, 0) := (r23 22 (by decide)).trans P22
  have P23 : g23.1 12 0 23 = some (74, 0) := (r23 23 (by decide)).trans P23
  have P29 : g23.1 12 0 29 = some (75, 0) := (r23 29 (by decide)).trans P29
  have P30 : g23.1 12 0 30 = some (76, 0) := (r23 30 (by decide)).trans P30
  have P31 : g23.1 12 0 31 = some (77, 0) := (r23 31 (by decide)).trans P31
  have P37 : g23.1 12 0 37 = some (78, 0) := (r23 37 (by decide)).trans P37
  have P38 : g23.1 12 0 38 = some (79, 0) := (r23 38 (by decide)).trans P38
  have P39 : g23.1 12 0 39 = some (80, 0) := (r23 39 (by decide)).trans P39
  have P40 : g23.1 12 0 40 = some (81, 0) := (r23 40 (by decide)).trans P40
  have P41 : g23.1 12 0 41 = some (82, 0) := (r23 41 (by decide)).trans P41
  have P43 : g23.1 12 0 43 = some (83, 0) := (r23 43 (by decide)).trans P43
  have P46 : g23.1 12 0 46 = some (84, 0) := p23.trans (by rw [c21 84, if_neg (by decide), c20 84, if_neg (by decide), c19 84, if_neg (by decide), c18 84, if_neg (by decide), c17 84, if_neg (by decide), c16 84, if_neg (by decide), c15 84, if_neg (by decide), c14 84, if_neg (by decide), c13 84, if_neg (by decide), c12 84, if_neg (by decide), c11 84, if_neg (by decide), c10 84, if_neg (by decide), c9 84, if_neg (by decide), c8 84, if_neg (by decide), c7 84, if_neg (by decide), c6 84, if_neg (by decide), c5 84, if_neg (by decide), c4 84, if_neg (by decide), c3 84, if_neg (by decide), c2 84, if_neg (by decide), c1 84, if_neg (by decide), h0 84 (by omega) (by omega)])
  have I11 : gi23 12 0 11 = -1 := (i23 11).trans J11
  have I34 : gi23 12 0 34 = -1 := (i23 34).trans J34
  have W : ∀ j, j < 65 → gi23 67 0 j = n32 (wbs.getD j 0) := fun j hj => ((o23 67 0 j N67).1).trans (W j hj)
  have N67 : 0 < g23.2.1 67 := by rw [c23 67, if_neg (by decide)]; exact N67
  rw [b_M_init_583]
  refine ⟨nn 384 (by omega), ?_⟩
  have J11 : gi23 12 0 11 = -1 := I11
  have J34 : gi23 12 0 34 = -1 := I34
  refine K_pn (K := fun h => Runs _ _ h _) s23 hw (fun gi24 g24 s24 c24 i24 r24 p24 o24 a24 l24 => ?_)
  have P2 : g24.1 12 0 2 = some (63, 0) := (r24 2 (by decide)).trans P2
  have P3 : g24.1 12 0 3 = some (64, 0) := (r24 3 (by decide)).trans P3
  have P4 : g24.1 12 0 4 = some (65, 0) := (r24 4 (by decide)).trans P4
  have P5 : g24.1 12 0 5 = some (66, 0) := (r24 5 (by decide)).trans P5
  have P7 : g24.1 12 0 7 = some (67, 0) := (r24 7 (by decide)).trans P7
  have P8 : g24.1 12 0 8 = some (68, 0) := (r24 8 (by decide)).trans P8
  have P9 : g24.1 12 0 9 = some (69, 0) := (r24 9 (by decide)).trans P9
  have P12 : g24.1 12 0 12 = some (70, 0) := (r24 12 (by decide)).trans P12
  have P13 : g24.1 12 0 13 = some (71, 0) := (r24 13 (by decide)).trans P13
  have P14 : g24.1 12 0 14 = some (72, 0) := (r24 14 (by decide)).trans P14
  have P22 : g24.1 12 0 22 = some (73, 0) := (r24 22 (by decide)).trans P22
  have P23 : g24.1 12 0 23 = some (74, 0) := (r24 23 (by decide)).trans P23
  have P29 : g24.1 12 0 29 = some (75, 0) := (r24 29 (by decide)).trans P29
  have P30 : g24.1 12 0 30 = some (76, 0) := (r24 30 (by decide)).trans P30
  have P31 : g24.1 12 0 31 = some (77, 0) := (r24 31 (by decide)).trans P31
  have P37 : g24.1 12 0 37 = some (78, 0) := (r24 37 (by decide)).trans P37
  have P38 : g24.1 12 0 38 = some (79, 0) := (r24 38 (by decide)).trans P38
  have P39 : g24.1 12 0 39 = some (80, 0) := (r24 39 (by decide)).trans P39
  have P40 : g24.1 12 0 40 = some (81, 0) := (r24 40 (by decide)).trans P40
  have P41 : g24.1 12 0 41 = some (82, 0) := (r24 41 (by decide)).trans P41
  have P43 : g24.1 12 0 43 = some (83, 0) := (r24 43 (by decide)).trans P43
  have P46 : g24.1 12 0 46 = some (84, 0) := (r24 46 (by decide)).trans P46
  have P47 : g24.1 12 0 47 = some (85, 0) := p24.trans (by rw [c22 85, if_neg (by decide), c21 85, if_neg (by decide), c20 85, if_neg (by decide), c19 85, if_neg (by decide), c18 85, if_neg (by decide), c17 85, if_neg (by decide), c16 85, if_neg (by decide), c15 85, if_neg (by decide), c14 85, if_neg (by decide), c13 85, if_neg (by decide), c12 85, if_neg (by decide), c11 85, if_neg (by decide), c10 85, if_neg (by decide), c9 85, if_neg (by decide), c8 85, if_neg (by decide), c7 85, if_neg (by decide), c6 85, if_neg (by decide), c5 85, if_neg (by decide), c4 85, if_neg (by decide), c3 85, if_neg (by decide), c2 85, if_neg (by decide), c1 85, if_neg (by decide), h0 85 (by omega) (by omega)])
  have I11 : gi24 12 0 11 = -1 := (i24 11).trans J11
  have I34 : gi24 12 0 34 = -1 := (i24 34).trans J34
  have W : ∀ j, j < 65 → gi24 67 0 j = n32 (wbs.getD j 0) := fun j hj => ((o24 67 0 j N67).1).trans (W j hj)
  have N67 : 0 < g24.2.1 67 := by rw [c24 67, if_neg (by decide)]; exact N67
  rw [b_M_init_592]
  have e3 : ax_wR g24.1 12 0 48 (some (86, g23.2.1 86)) 12 0 3 = some (64, 0) := by rw [wR_at, if_neg (by omega), P3]
  have k4 : (n32 794).toNatClampNeg = 794 := by decide
  have k5 : (n32 795).toNatClampNeg = 795 := by decide
  have k8 : (n32 798).toNatClampNeg = 798 := by decide
  rw [k4, k5, k8]
  refine ⟨e3, n32_in (by omega) (by omega), e3, n32_in (by omega) (by omega), e3, n32_in (by omega) (by omega), ?_⟩
  refine hq _ _ (ST_wR (ST_wIn (ST_wIn (ST_wIn s24 (k := 794) (v := n32 1) (Nat.le_of_eq (h0 64 (by omega) (by omega))) (Or.inr (by unfold DZ; omega))) (k := 795) (v := n32 5) (Nat.le_of_eq (h0 64 (by omega) (by omega))) (Or.inr (by unfold DZ; omega))) (k := 798) (v := -1) (Nat.le_of_eq (h0 64 (by omega) (by omega))) (Or.inr (by unfold DZ; omega))) hw) (fun t ht => ?_) ?_ ?_ ?_ ?_ ?_ ?_ ?_ ?_ ?_ ?_ ?_ ?_ ?_ ?_ ?_ ?_ ?_ ?_ ?_ ?_ ?_ ?_ ?_ ?_ ?_ ?_ (fun j hj => ?_) ⟨?_, ?_, ?_⟩ ?_ ?_
  · show g24.2.1 t = _
    rw [c24 t, if_neg (by omega), c23 t, if_neg (by omega), c22 t, if_neg (by omega), c21 t, if_neg (by omega), c20 t, if_neg (by omega), c19 t, if_neg (by omega), c18 t, if_neg (by omega), c17 t, if_neg (by omega), c16 t, if_neg (by omega), c15 t, if_neg (by omega), c14 t, if_neg (by omega), c13 t, if_neg (by omega), c12 t, if_neg (by omega), c11 t, if_neg (by omega), c10 t, if_neg (by omega), c9 t, if_neg (by omega), c8 t, if_neg (by omega), c7 t, if_neg (by omega), c6 t, if_neg (by omega), c5 t, if_neg (by omega), c4 t, if_neg (by omega), c3 t, if_neg (by omega), c2 t, if_neg (by omega), c1 t, if_neg (by omega)]
  · show ax_wR g24.1 12 0 48 (some (86, g23.2.1 86)) 12 0 2 = _
    rw [wR_at, if_neg (by omega), P2]
  · show ax_wR g24.1 12 0 48 (some (86, g23.2.1 86)) 12 0 3 = _
    rw [wR_at, if_neg (by omega), P3]
  · show ax_wR g24.1 12 0 48 (some (86, g23.2.1 86)) 12 0 4 = _
    rw [wR_at, if_neg (by omega), P4]
  · show ax_wR g24.1 12 0 48 (some (86, g23.2.1 86)) 12 0 5 = _
    rw [wR_at, if_neg (by omega), P5]
  · show ax_wR g24.1 12 0 48 (some (86, g23.2.1 86)) 12 0 7 = _
    rw [wR_at, if_neg (by omega), P7]
  · show ax_wR g24.1 12 0 48 (some (86, g23.2.1 86)) 12 0 8 = _
    rw [wR_at, if_neg (by omega), P8]
  · show ax_wR g24.1 12 0 48 (some (86, g23.2.1 86)) 12 0 9 = _
    rw [wR_at, if_neg (by omega), P9]
  · show ax_wR g24.1 12 0 48 (some (86, g23.2.1 86)) 12 0 12 = _
    rw [wR_at, if_neg (by omega), P12]
  · show ax_wR g24.1 12 0 48 (some (86, g23.2.1 86)) 12 0 13 = _
    rw [wR_at, if_neg (by omega), P13]
  · show ax_wR g24.1 12 0 48 (some (86, g23.2.1 86)) 12 0 14 = _
    rw [wR_at, if_neg (by omega), P14]
  · show ax_wR g24.1 12 0 48 (some (86, g23.2.1 86)) 12 0 22 = _
    rw [wR_at, if_neg (by omega), P22]
  · show ax_wR g24.1 12 0 48 (some (86, g23.2.1 86)) 12 0 23 = _
    rw [wR_at, if_neg (by omega), P23]
  · show ax_wR g24.1 12 0 48 (some (86, g23.2.1 86)) 12 0 29 = _
    rw [wR_at, if_neg (by omega), P29]
  · show ax_wR g24.1 12 0 48 (some (86, g23.2.1 86)) 12 0 30 = _
    rw [wR_at, if_neg (by omega), P30]
  · show ax_wR g24.1 12 0 48 (some (86, g23.2.1 86)) 12 0 31 = _
    rw [wR_at, if_neg (by omega), P31]
  · show ax_wR g24.1 12 0 48 (some (86, g23.2.1 86)) 12 0 37 = _
    rw [wR_at, if_neg (by omega), P37]
  · show ax_wR g24.1 12 0 48 (some (86, g23.2.1 86)) 12 0 38 = _
    rw [wR_at, if_neg (by omega), P38]
  · show ax_wR g24.1 12 0 48 (some (86, g23.2.1 86)) 12 0 39 = _
    rw [wR_at, if_neg (by omega), P39]
  · show ax_wR g24.1 12 0 48 (some (86, g23.2.1 86)) 12 0 40 = _
    rw [wR_at, if_neg (by omega), P40]
  · show ax_wR g24.1 12 0 48 (some (86, g23.2.1 86)) 12 0 41 = _
    rw [wR_at, if_neg (by omega), P41]
  · show ax_wR g24.1 12 0 48 (some (86, g23.2.1 86)) 12 0 43 = _
    rw [wR_at, if_neg (by omega), P43]
  · show ax_wR g24.1 12 0 48 (some (86, g23.2.1 86)) 12 0 46 = _
    rw [wR_at, if_neg (by omega), P46]
  · show ax_wR g24.1 12 0 48 (some (86, g23.2.1 86)) 12 0 47 = _
    rw [wR_at, if_neg (by omega), P47]
  · show ax_wR g24.1 12 0 48 (some (86, g23.2.1 86)) 12 0 48 = _
    rw [wR_at, if_pos ⟨rfl, rfl, rfl⟩, c23 86, if_neg (by decide), c22 86, if_neg (by decide), c21 86, if_neg (by decide), c20 86, if_neg (by decide), c19 86, if_neg (by decide), c18 86, if_neg (by decide), c17 86, if_neg (by decide), c16 86, if_neg (by decide), c15 86, if_neg (by decide), c14 86, if_neg (by decide), c13 86, if_neg (by decide), c12 86, if_neg (by decide), c11 86, if_neg (by decide), c10 86, if_neg (by decide), c9 86, if_neg (by decide), c8 86, if_neg (by decide), c7 86, if_neg (by decide), c6 86, if_neg (by decide), c5 86, if_neg (by decide), c4 86, if_neg (by decide), c3 86, if_neg (by decide), c2 86, if_neg (by decide), c1 86, if_neg (by decide), h0 86 (by omega) (by omega)]
  · rw [wI_ne (by decide), wI_ne (by decide), wI_ne (by decide)]
    exact I11
  · rw [wI_ne (by decide), wI_ne (by decide), wI_ne (by decide)]
    exact I34
  · rw [wI_ne (by decide), wI_ne (by decide), wI_ne (by decide)]
    exact W j hj
  · rw [wI_at, if_neg (by omega), wI_at, if_neg (by omega), wI_self]
  · rw [wI_at, if_neg (by omega), wI_self]
  · rw [wI_self]
  · show g24.2.2.2.1 = _
    rw [a24, a23, a22, a21, a20, a19, a18, a17, a16, a15, a14, a13, a12, a11, a10, a9, a8, a7, a6, a5, a4, a3, a2, a1]
  · show g24.2.2.2.2 = _
    rw [l24, l23, l22, l21, l20, l19, l18, l17, l16, l15, l14, l13, l12, l11, l10, l9, l8, l7, l6, l5, l4, l3, l2, l1]
