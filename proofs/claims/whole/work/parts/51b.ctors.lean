/-! constructors that make arrays alone -/
theorem n_Mach {d w : Nat} {F : Nat → Nat → Nat → AR} {gi : GI} {g : AG} {Q : Option AV → AH → Prop} (hU : RU F g) (hZ : ZS gi) (hw : w < g.2.1 5)
    (hq : ∀ (gi' : GI) (g' : AG), ST F gi g 5 w gi' g' → (∀ t, ¬ (t = 41 ∨ t = 42) → g'.2.1 t = g.2.1 t) → g'.1 5 w 0 = some (41, g.2.1 41) → g'.1 5 w 1 = some (42, g.2.1 42) → g'.2.2.2.1 = g.2.2.2.1 + 2 → g'.2.2.2.2 = g.2.2.2.2 + 72 → Q none (gi', g')) :
    ax_call (d + 1) m_Mach_init [.inr (.inr (some (5, w)))] (gi, g) Q := by
  have s0 : ST F gi g 5 w gi g := ST_refl hU hZ
  rw [e_Mach_init]
  rw [b_Mach_init_0]
  refine ⟨nn 8 (by omega), ?_⟩
  refine K_new (K := fun h => Runs _ _ h _) s0 hw (fun gi1 g1 s1 c1 i1 r1 o1 a1 l1 => ?_)
  rw [b_Mach_init_9]
  refine ⟨nn 64 (by omega), ?_⟩
  refine K_pn (K := fun h => Runs _ _ h _) s1 hw (fun gi2 g2 s2 c2 i2 r2 p2 o2 a2 l2 => ?_)
  have P0 : g2.1 5 w 0 = some (41, g.2.1 41) := p2.trans (by rfl)
  rw [b_Mach_init_17]
  refine ⟨Or.inl rfl, ?_⟩
  refine hq _ _ (ST_wR (ST_wI (ST_wI s2 (k := 2) (v := n32 0) (Or.inl rfl)) (k := 3) (v := n32 0) (Or.inl rfl)) hw) (fun t ht => ?_) ?_ ?_ ?_ ?_
  · show g2.2.1 t = _
    rw [c2 t, if_neg (by omega), c1 t, if_neg (by omega)]
  · show ax_wR g2.1 5 w 1 _ 5 w 0 = _
    rw [wR_at, if_neg (by omega), P0]
  · show ax_wR g2.1 5 w 1 (some (42, g1.2.1 42)) 5 w 1 = _
    rw [wR_at, if_pos ⟨rfl, rfl, rfl⟩, c1 42, if_neg (by decide)]
  · show g2.2.2.2.1 = _
    rw [a2, a1]
  · show g2.2.2.2.2 = _
    rw [l2, l1]
theorem n_Reader {d w : Nat} {F : Nat → Nat → Nat → AR} {gi : GI} {g : AG} {Q : Option AV → AH → Prop} (hU : RU F g) (hZ : ZS gi) (hw : w < g.2.1 6)
    (hq : ∀ (gi' : GI) (g' : AG), ST F gi g 6 w gi' g' → (∀ t, ¬ (31 ≤ t ∧ t ≤ 38) → g'.2.1 t = g.2.1 t) → g'.1 6 w 0 = some (31, g.2.1 31) → g'.1 6 w 1 = some (32, g.2.1 32) → g'.1 6 w 2 = some (33, g.2.1 33) → g'.1 6 w 9 = some (34, g.2.1 34) → g'.1 6 w 10 = some (35, g.2.1 35) → g'.1 6 w 11 = some (36, g.2.1 36) → g'.1 6 w 12 = some (37, g.2.1 37) → g'.1 6 w 13 = some (38, g.2.1 38) → g'.2.2.2.1 = g.2.2.2.1 + 8 → g'.2.2.2.2 = g.2.2.2.2 + 2042 → Q none (gi', g')) :
    ax_call (d + 1) m_Reader_init [.inr (.inr (some (6, w)))] (gi, g) Q := by
  have s0 : ST F gi g 6 w gi g := ST_refl hU hZ
  rw [e_Reader_init]
  rw [b_Reader_init_0]
  refine ⟨nn 401 (by omega), ?_⟩
  refine K_new (K := fun h => Runs _ _ h _) s0 hw (fun gi1 g1 s1 c1 i1 r1 o1 a1 l1 => ?_)
  rw [b_Reader_init_10]
  refine ⟨nn 401 (by omega), ?_⟩
  refine K_pn (K := fun h => Runs _ _ h _) s1 hw (fun gi2 g2 s2 c2 i2 r2 p2 o2 a2 l2 => ?_)
  have P0 : g2.1 6 w 0 = some (31, g.2.1 31) := p2.trans (by rfl)
  rw [b_Reader_init_19]
  refine ⟨nn 401 (by omega), ?_⟩
  refine K_pn (K := fun h => Runs _ _ h _) s2 hw (fun gi3 g3 s3 c3 i3 r3 p3 o3 a3 l3 => ?_)
  have P0 : g3.1 6 w 0 = some (31, g.2.1 31) := (r3 0 (by decide)).trans P0
  have P1 : g3.1 6 w 1 = some (32, g.2.1 32) := p3.trans (by rw [c1 32, if_neg (by decide)])
  rw [b_Reader_init_28]
  have J6 : (ax_wI (ax_wI (ax_wI (ax_wI (ax_wI (ax_wI gi3 6 w 3 (n32 0)) 6 w 4 (n32 0)) 6 w 5 (n32 0)) 6 w 6 (-1)) 6 w 7 (n32 0)) 6 w 8 (n32 0)) 6 w 6 = -1 := by rw [wI_at, if_neg (by omega), wI_at, if_neg (by omega), wI_self]
  refine ⟨nn 13 (by omega), ?_⟩
  refine K_pn (K := fun h => Runs _ _ h _) (ST_wI (ST_wI (ST_wI (ST_wI (ST_wI (ST_wI s3 (k := 3) (v := n32 0) (Or.inl rfl)) (k := 4) (v := n32 0) (Or.inl rfl)) (k := 5) (v := n32 0) (Or.inl rfl)) (k := 6) (v := -1) (Or.inr (by unfold DZ; omega))) (k := 7) (v := n32 0) (Or.inl rfl)) (k := 8) (v := n32 0) (Or.inl rfl)) hw (fun gi4 g4 s4 c4 i4 r4 p4 o4 a4 l4 => ?_)
  have P0 : g4.1 6 w 0 = some (31, g.2.1 31) := (r4 0 (by decide)).trans P0
  have P1 : g4.1 6 w 1 = some (32, g.2.1 32) := (r4 1 (by decide)).trans P1
  have P2 : g4.1 6 w 2 = some (33, g.2.1 33) := p4.trans (by rw [c2 33, if_neg (by decide), c1 33, if_neg (by decide)])
  have I6 : gi4 6 w 6 = -1 := (i4 6).trans J6
  rw [b_Reader_init_66]
  have J6 : gi4 6 w 6 = -1 := I6
  refine ⟨nn 12 (by omega), ?_⟩
  refine K_pn (K := fun h => Runs _ _ h _) s4 hw (fun gi5 g5 s5 c5 i5 r5 p5 o5 a5 l5 => ?_)
  have P0 : g5.1 6 w 0 = some (31, g.2.1 31) := (r5 0 (by decide)).trans P0
  have P1 : g5.1 6 w 1 = some (32, g.2.1 32) := (r5 1 (by decide)).trans P1
  have P2 : g5.1 6 w 2 = some (33, g.2.1 33) := (r5 2 (by decide)).trans P2
  have P9 : g5.1 6 w 9 = some (34, g.2.1 34) := p5.trans (by rw [c3 34, if_neg (by decide), c2 34, if_neg (by decide), c1 34, if_neg (by decide)])
  have I6 : gi5 6 w 6 = -1 := (i5 6).trans J6
  rw [b_Reader_init_74]
  have J6 : gi5 6 w 6 = -1 := I6
  refine ⟨nn 12 (by omega), ?_⟩
  refine K_pn (K := fun h => Runs _ _ h _) s5 hw (fun gi6 g6 s6 c6 i6 r6 p6 o6 a6 l6 => ?_)
  have P0 : g6.1 6 w 0 = some (31, g.2.1 31) := (r6 0 (by decide)).trans P0
  have P1 : g6.1 6 w 1 = some (32, g.2.1 32) := (r6 1 (by decide)).trans P1
  have P2 : g6.1 6 w 2 = some (33, g.2.1 33) := (r6 2 (by decide)).trans P2
  have P9 : g6.1 6 w 9 = some (34, g.2.1 34) := (r6 9 (by decide)).trans P9
  have P10 : g6.1 6 w 10 = some (35, g.2.1 35) := p6.trans (by rw [c4 35, if_neg (by decide), c3 35, if_neg (by decide), c2 35, if_neg (by decide), c1 35, if_neg (by decide)])
  have I6 : gi6 6 w 6 = -1 := (i6 6).trans J6
  rw [b_Reader_init_82]
  have J6 : gi6 6 w 6 = -1 := I6
  refine ⟨nn 401 (by omega), ?_⟩
  refine K_pn (K := fun h => Runs _ _ h _) s6 hw (fun gi7 g7 s7 c7 i7 r7 p7 o7 a7 l7 => ?_)
  have P0 : g7.1 6 w 0 = some (31, g.2.1 31) := (r7 0 (by decide)).trans P0
  have P1 : g7.1 6 w 1 = some (32, g.2.1 32) := (r7 1 (by decide)).trans P1
  have P2 : g7.1 6 w 2 = some (33, g.2.1 33) := (r7 2 (by decide)).trans P2
  have P9 : g7.1 6 w 9 = some (34, g.2.1 34) := (r7 9 (by decide)).trans P9
  have P10 : g7.1 6 w 10 = some (35, g.2.1 35) := (r7 10 (by decide)).trans P10
  have P11 : g7.1 6 w 11 = some (36, g.2.1 36) := p7.trans (by rw [c5 36, if_neg (by decide), c4 36, if_neg (by decide), c3 36, if_neg (by decide), c2 36, if_neg (by decide), c1 36, if_neg (by decide)])
  have I6 : gi7 6 w 6 = -1 := (i7 6).trans J6
  rw [b_Reader_init_91]
  have J6 : gi7 6 w 6 = -1 := I6
  refine ⟨nn 401 (by omega), ?_⟩
  refine K_pn (K := fun h => Runs _ _ h _) s7 hw (fun gi8 g8 s8 c8 i8 r8 p8 o8 a8 l8 => ?_)
  have P0 : g8.1 6 w 0 = some (31, g.2.1 31) := (r8 0 (by decide)).trans P0
  have P1 : g8.1 6 w 1 = some (32, g.2.1 32) := (r8 1 (by decide)).trans P1
  have P2 : g8.1 6 w 2 = some (33, g.2.1 33) := (r8 2 (by decide)).trans P2
  have P9 : g8.1 6 w 9 = some (34, g.2.1 34) := (r8 9 (by decide)).trans P9
  have P10 : g8.1 6 w 10 = some (35, g.2.1 35) := (r8 10 (by decide)).trans P10
  have P11 : g8.1 6 w 11 = some (36, g.2.1 36) := (r8 11 (by decide)).trans P11
  have P12 : g8.1 6 w 12 = some (37, g.2.1 37) := p8.trans (by rw [c6 37, if_neg (by decide), c5 37, if_neg (by decide), c4 37, if_neg (by decide), c3 37, if_neg (by decide), c2 37, if_neg (by decide), c1 37, if_neg (by decide)])
  have I6 : gi8 6 w 6 = -1 := (i8 6).trans J6
  rw [b_Reader_init_100]
  have J6 : gi8 6 w 6 = -1 := I6
  refine hq _ _ (ST_wR s8 hw) (fun t ht => ?_) ?_ ?_ ?_ ?_ ?_ ?_ ?_ ?_ ?_ ?_
  · show g8.2.1 t = _
    rw [c8 t, if_neg (by omega), c7 t, if_neg (by omega), c6 t, if_neg (by omega), c5 t, if_neg (by omega), c4 t, if_neg (by omega), c3 t, if_neg (by omega), c2 t, if_neg (by omega), c1 t, if_neg (by omega)]
  · show ax_wR g8.1 6 w 13 _ 6 w 0 = _
    rw [wR_at, if_neg (by omega), P0]
  · show ax_wR g8.1 6 w 13 _ 6 w 1 = _
    rw [wR_at, if_neg (by omega), P1]
  · show ax_wR g8.1 6 w 13 _ 6 w 2 = _
    rw [wR_at, if_neg (by omega), P2]
  · show ax_wR g8.1 6 w 13 _ 6 w 9 = _
    rw [wR_at, if_neg (by omega), P9]
  · show ax_wR g8.1 6 w 13 _ 6 w 10 = _
    rw [wR_at, if_neg (by omega), P10]
  · show ax_wR g8.1 6 w 13 _ 6 w 11 = _
    rw [wR_at, if_neg (by omega), P11]
  · show ax_wR g8.1 6 w 13 _ 6 w 12 = _
    rw [wR_at, if_neg (by omega), P12]
  · show ax_wR g8.1 6 w 13 (some (38, g7.2.1 38)) 6 w 13 = _
    rw [wR_at, if_pos ⟨rfl, rfl, rfl⟩, c7 38, if_neg (by decide), c6 38, if_neg (by decide), c5 38, if_neg (by decide), c4 38, if_neg (by decide), c3 38, if_neg (by decide), c2 38, if_neg (by decide), c1 38, if_neg (by decide)]
  · show g8.2.2.2.1 = _
    rw [a8, a7, a6, a5, a4, a3, a2, a1]
  · show g8.2.2.2.2 = _
    rw [l8, l7, l6, l5, l4, l3, l2, l1]
theorem n_Freeing {d w : Nat} {F : Nat → Nat → Nat → AR} {gi : GI} {g : AG} {Q : Option AV → AH → Prop} (hU : RU F g) (hZ : ZS gi) (hw : w < g.2.1 8)
    (hq : ∀ (gi' : GI) (g' : AG), ST F gi g 8 w gi' g' → (∀ t, ¬ (t = 43 ∨ t = 44) → g'.2.1 t = g.2.1 t) → g'.1 8 w 8 = some (43, g.2.1 43) → g'.1 8 w 9 = some (44, g.2.1 44) → gi' 8 w 4 = -1 → g'.2.2.2.1 = g.2.2.2.1 + 2 → g'.2.2.2.2 = g.2.2.2.2 + 6 → Q none (gi', g')) :
    ax_call (d + 1) m_Freeing_init [.inr (.inr (some (8, w)))] (gi, g) Q := by
  have s0 : ST F gi g 8 w gi g := ST_refl hU hZ
  rw [e_Freeing_init]
  rw [b_Freeing_init_0]
  have J2 : (ax_wI (ax_wI (ax_wI (ax_wI (ax_wI (ax_wI gi 8 w 2 (-1)) 8 w 3 (-1)) 8 w 4 (-1)) 8 w 5 (n32 0)) 8 w 6 (-1)) 8 w 7 (n32 0)) 8 w 2 = -1 := by rw [wI_at, if_neg (by omega), wI_at, if_neg (by omega), wI_at, if_neg (by omega), wI_at, if_neg (by omega), wI_at, if_neg (by omega), wI_self]
  have J3 : (ax_wI (ax_wI (ax_wI (ax_wI (ax_wI (ax_wI gi 8 w 2 (-1)) 8 w 3 (-1)) 8 w 4 (-1)) 8 w 5 (n32 0)) 8 w 6 (-1)) 8 w 7 (n32 0)) 8 w 3 = -1 := by rw [wI_at, if_neg (by omega), wI_at, if_neg (by omega), wI_at, if_neg (by omega), wI_at, if_neg (by omega), wI_self]
  have J4 : (ax_wI (ax_wI (ax_wI (ax_wI (ax_wI (ax_wI gi 8 w 2 (-1)) 8 w 3 (-1)) 8 w 4 (-1)) 8 w 5 (n32 0)) 8 w 6 (-1)) 8 w 7 (n32 0)) 8 w 4 = -1 := by rw [wI_at, if_neg (by omega), wI_at, if_neg (by omega), wI_at, if_neg (by omega), wI_self]
  have J6 : (ax_wI (ax_wI (ax_wI (ax_wI (ax_wI (ax_wI gi 8 w 2 (-1)) 8 w 3 (-1)) 8 w 4 (-1)) 8 w 5 (n32 0)) 8 w 6 (-1)) 8 w 7 (n32 0)) 8 w 6 = -1 := by rw [wI_at, if_neg (by omega), wI_self]
  refine ⟨nn 3 (by omega), ?_⟩
  refine K_new (K := fun h => Runs _ _ h _) (ST_wR (ST_wR (ST_wI (ST_wI (ST_wI (ST_wI (ST_wI (ST_wI s0 (k := 2) (v := -1) (Or.inr (by unfold DZ; omega))) (k := 3) (v := -1) (Or.inr (by unfold DZ; omega))) (k := 4) (v := -1) (Or.inr (by unfold DZ; omega))) (k := 5) (v := n32 0) (Or.inl rfl)) (k := 6) (v := -1) (Or.inr (by unfold DZ; omega))) (k := 7) (v := n32 0) (Or.inl rfl)) hw (k := 0) (v := none)) hw (k := 1) (v := none)) hw (fun gi1 g1 s1 c1 i1 r1 o1 a1 l1 => ?_)
  have I2 : gi1 8 w 2 = -1 := (i1 2).trans J2
  have I3 : gi1 8 w 3 = -1 := (i1 3).trans J3
  have I4 : gi1 8 w 4 = -1 := (i1 4).trans J4
  have I6 : gi1 8 w 6 = -1 := (i1 6).trans J6
  rw [b_Freeing_init_48]
  have J2 : gi1 8 w 2 = -1 := I2
  have J3 : gi1 8 w 3 = -1 := I3
  have J4 : gi1 8 w 4 = -1 := I4
  have J6 : gi1 8 w 6 = -1 := I6
  refine ⟨nn 3 (by omega), ?_⟩
  refine K_pn (K := fun h => Runs _ _ h _) s1 hw (fun gi2 g2 s2 c2 i2 r2 p2 o2 a2 l2 => ?_)
  have P8 : g2.1 8 w 8 = some (43, g.2.1 43) := p2.trans (by rfl)
  have I2 : gi2 8 w 2 = -1 := (i2 2).trans J2
  have I3 : gi2 8 w 3 = -1 := (i2 3).trans J3
  have I4 : gi2 8 w 4 = -1 := (i2 4).trans J4
  have I6 : gi2 8 w 6 = -1 := (i2 6).trans J6
  rw [b_Freeing_init_55]
  have J2 : gi2 8 w 2 = -1 := I2
  have J3 : gi2 8 w 3 = -1 := I3
  have J4 : gi2 8 w 4 = -1 := I4
  have J6 : gi2 8 w 6 = -1 := I6
  refine hq _ _ (ST_wR s2 hw) (fun t ht => ?_) ?_ ?_ ?_ ?_ ?_
  · show g2.2.1 t = _
    rw [c2 t, if_neg (by omega), c1 t, if_neg (by omega)]
  · show ax_wR g2.1 8 w 9 _ 8 w 8 = _
    rw [wR_at, if_neg (by omega), P8]
  · show ax_wR g2.1 8 w 9 (some (44, g1.2.1 44)) 8 w 9 = _
    rw [wR_at, if_pos ⟨rfl, rfl, rfl⟩, c1 44, if_neg (by decide)]
  · exact J4
  · show g2.2.2.2.1 = _
    rw [a2, a1]
  · show g2.2.2.2.2 = _
    rw [l2, l1]
theorem n_Filling {d w : Nat} {F : Nat → Nat → Nat → AR} {gi : GI} {g : AG} {Q : Option AV → AH → Prop} (hU : RU F g) (hZ : ZS gi) (hw : w < g.2.1 9)
    (hq : ∀ (gi' : GI) (g' : AG), ST F gi g 9 w gi' g' → (∀ t, ¬ (t = 45 ∨ t = 46) → g'.2.1 t = g.2.1 t) → g'.1 9 w 8 = some (45, g.2.1 45) → g'.1 9 w 9 = some (46, g.2.1 46) → gi' 9 w 5 = -1 → g'.2.2.2.1 = g.2.2.2.1 + 2 → g'.2.2.2.2 = g.2.2.2.2 + 12 → Q none (gi', g')) :
    ax_call (d + 1) m_Filling_init [.inr (.inr (some (9, w)))] (gi, g) Q := by
  have s0 : ST F gi g 9 w gi g := ST_refl hU hZ
  rw [e_Filling_init]
  rw [b_Filling_init_0]
  have J2 : (ax_wI (ax_wI (ax_wI (ax_wI (ax_wI (ax_wI gi 9 w 2 (-1)) 9 w 3 (n32 0)) 9 w 4 (n32 0)) 9 w 5 (-1)) 9 w 6 (n32 0)) 9 w 7 (n32 0)) 9 w 2 = -1 := by rw [wI_at, if_neg (by omega), wI_at, if_neg (by omega), wI_at, if_neg (by omega), wI_at, if_neg (by omega), wI_at, if_neg (by omega), wI_self]
  have J5 : (ax_wI (ax_wI (ax_wI (ax_wI (ax_wI (ax_wI gi 9 w 2 (-1)) 9 w 3 (n32 0)) 9 w 4 (n32 0)) 9 w 5 (-1)) 9 w 6 (n32 0)) 9 w 7 (n32 0)) 9 w 5 = -1 := by rw [wI_at, if_neg (by omega), wI_at, if_neg (by omega), wI_self]
  refine ⟨nn 6 (by omega), ?_⟩
  refine K_new (K := fun h => Runs _ _ h _) (ST_wR (ST_wR (ST_wI (ST_wI (ST_wI (ST_wI (ST_wI (ST_wI s0 (k := 2) (v := -1) (Or.inr (by unfold DZ; omega))) (k := 3) (v := n32 0) (Or.inl rfl)) (k := 4) (v := n32 0) (Or.inl rfl)) (k := 5) (v := -1) (Or.inr (by unfold DZ; omega))) (k := 6) (v := n32 0) (Or.inl rfl)) (k := 7) (v := n32 0) (Or.inl rfl)) hw (k := 0) (v := none)) hw (k := 1) (v := none)) hw (fun gi1 g1 s1 c1 i1 r1 o1 a1 l1 => ?_)
  have I2 : gi1 9 w 2 = -1 := (i1 2).trans J2
  have I5 : gi1 9 w 5 = -1 := (i1 5).trans J5
  rw [b_Filling_init_49]
  have J2 : gi1 9 w 2 = -1 := I2
  have J5 : gi1 9 w 5 = -1 := I5
  refine ⟨nn 6 (by omega), ?_⟩
  refine K_pn (K := fun h => Runs _ _ h _) s1 hw (fun gi2 g2 s2 c2 i2 r2 p2 o2 a2 l2 => ?_)
  have P8 : g2.1 9 w 8 = some (45, g.2.1 45) := p2.trans (by rfl)
  have I2 : gi2 9 w 2 = -1 := (i2 2).trans J2
  have I5 : gi2 9 w 5 = -1 := (i2 5).trans J5
  rw [b_Filling_init_57]
  have J2 : gi2 9 w 2 = -1 := I2
  have J5 : gi2 9 w 5 = -1 := I5
  refine hq _ _ (ST_wR s2 hw) (fun t ht => ?_) ?_ ?_ ?_ ?_ ?_
  · show g2.2.1 t = _
    rw [c2 t, if_neg (by omega), c1 t, if_neg (by omega)]
  · show ax_wR g2.1 9 w 9 _ 9 w 8 = _
    rw [wR_at, if_neg (by omega), P8]
  · show ax_wR g2.1 9 w 9 (some (46, g1.2.1 46)) 9 w 9 = _
    rw [wR_at, if_pos ⟨rfl, rfl, rfl⟩, c1 46, if_neg (by decide)]
  · exact J5
  · show g2.2.2.2.1 = _
    rw [a2, a1]
  · show g2.2.2.2.2 = _
    rw [l2, l1]
theorem n_Ruler {d w : Nat} {F : Nat → Nat → Nat → AR} {gi : GI} {g : AG} {Q : Option AV → AH → Prop} (hU : RU F g) (hZ : ZS gi) (hw : w < g.2.1 11)
    (hq : ∀ (gi' : GI) (g' : AG), ST F gi g 11 w gi' g' → (∀ t, ¬ (t = 53) → g'.2.1 t = g.2.1 t) → g'.1 11 w 0 = some (53, g.2.1 53) → g'.2.2.2.1 = g.2.2.2.1 + 1 → g'.2.2.2.2 = g.2.2.2.2 + 640 → Q none (gi', g')) :
    ax_call (d + 1) m_Ruler_init [.inr (.inr (some (11, w)))] (gi, g) Q := by
  have s0 : ST F gi g 11 w gi g := ST_refl hU hZ
  rw [e_Ruler_init]
  rw [b_Ruler_init_0]
  refine ⟨nn 640 (by omega), ?_⟩
  refine K_new (K := fun h => Runs _ _ h _) s0 hw (fun gi1 g1 s1 c1 i1 r1 o1 a1 l1 => ?_)
  rw [b_Ruler_init_10]
  refine hq _ _ (ST_wR s1 hw) (fun t ht => ?_) ?_ ?_ ?_
  · show g1.2.1 t = _
    rw [c1 t, if_neg (by omega)]
  · show ax_wR g1.1 11 w 0 (some (53, g.2.1 53)) 11 w 0 = _
    rw [wR_at, if_pos ⟨rfl, rfl, rfl⟩]
  · show g1.2.2.2.1 = _
    rw [a1]
  · show g1.2.2.2.2 = _
    rw [l1]
