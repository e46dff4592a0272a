/-- the street -/
theorem n_Street {d w : Nat} {F : Nat → Nat → Nat → AR} {gi : GI} {g : AG} {Q : Option AV → AH → Prop} (hU : RU F g) (hZ : ZS gi) (hw : w < g.2.1 10)
    (hq : ∀ (gi' : GI) (g' : AG), ST F gi g 10 w gi' g' → (∀ t, ¬ (47 ≤ t ∧ t ≤ 52) → g'.2.1 t = g.2.1 t) → g'.1 10 w 7 = some (47, g.2.1 47) → g'.1 10 w 8 = some (49, g.2.1 49) → g'.1 10 w 9 = some (50, g.2.1 50) → g'.1 10 w 10 = some (51, g.2.1 51) → g'.1 10 w 11 = some (52, g.2.1 52) → (∀ j, j < 6 → g'.1 47 (g.2.1 47) j = some (48, g.2.1 48 + j)) → (g.2.1 47 < g'.2.1 47 ∧ g'.2.1 47 ≤ g.2.1 47 + 1) → gi' 10 w 0 = -1 → g'.2.2.2.1 = g.2.2.2.1 + 11 → g'.2.2.2.2 = g.2.2.2.2 + 66 → Q none (gi', g')) :
    ax_call (d + 1) m_Street_init [.inr (.inr (some (10, w)))] (gi, g) Q := by
  have s0 : ST F gi g 10 w gi g := ST_refl hU hZ
  have s1 := ST_wI (ST_wI (ST_wI (ST_wI (ST_wI (ST_wI (ST_wI (k := 0) (v := -1) s0 (Or.inr (by unfold DZ; omega))) (k := 1) (v := n32 0) (Or.inl rfl)) (k := 2) (v := n32 0) (Or.inl rfl)) (k := 3) (v := n32 0) (Or.inl rfl)) (k := 4) (v := n32 0) (Or.inl rfl)) (k := 5) (v := n32 0) (Or.inl rfl)) (k := 6) (v := n32 0) (Or.inl rfl)
  have i1 : ax_wI (ax_wI (ax_wI (ax_wI (ax_wI (ax_wI (ax_wI gi 10 w 0 (-1)) 10 w 1 (n32 0)) 10 w 2 (n32 0)) 10 w 3 (n32 0)) 10 w 4 (n32 0)) 10 w 5 (n32 0)) 10 w 6 (n32 0) 10 w 0 = -1 := by rw [wI_at, if_neg (by omega), wI_at, if_neg (by omega), wI_at, if_neg (by omega), wI_at, if_neg (by omega), wI_at, if_neg (by omega), wI_at, if_neg (by omega), wI_self]
  rw [e_Street_init, b_Street_init_0]
  refine ⟨⟨nn 6 (by omega), nn 6 (by omega)⟩, ?_⟩
  refine K_mn (K := fun h => Runs _ _ h _) s1 hw (by decide) (by decide) (fun gi2 g2 s2 c2 cs2 ct2 w2 o2 a2 l2 => ?_)
  have I2 : gi2 10 w 0 = -1 := ((o2 10 w 0 hw).1).trans i1
  have N2 : g.2.1 47 < g2.2.1 47 := by omega
  rw [b_Street_init_48]
  refine ⟨nn 6 (by omega), ?_⟩
  refine K_pn (K := fun h => Runs _ _ h _) s2 hw (fun gi3 g3 s3 c3 i3 r3 p3 o3 a3 l3 => ?_)
  have W3 : ∀ j, j < 6 → g3.1 47 (g.2.1 47) j = some (48, g.2.1 48 + j) := fun j hj => ((o3 47 (g.2.1 47) j N2).2 (by omega)).trans (w2 j hj)
  have N3 : g3.2.1 47 = g2.2.1 47 := by rw [c3 47, if_neg (by decide)]
  rw [b_Street_init_56]
  refine ⟨nn 6 (by omega), ?_⟩
  refine K_pn (K := fun h => Runs _ _ h _) s3 hw (fun gi4 g4 s4 c4 i4 r4 p4 o4 a4 l4 => ?_)
  have W4 : ∀ j, j < 6 → g4.1 47 (g.2.1 47) j = some (48, g.2.1 48 + j) := fun j hj => ((o4 47 (g.2.1 47) j (by omega)).2 (by omega)).trans (W3 j hj)
  have N4 : g4.2.1 47 = g2.2.1 47 := by rw [c4 47, if_neg (by decide), N3]
  rw [b_Street_init_64]
  refine ⟨nn 6 (by omega), ?_⟩
  refine K_pn (K := fun h => Runs _ _ h _) s4 hw (fun gi5 g5 s5 c5 i5 r5 p5 o5 a5 l5 => ?_)
  have W5 : ∀ j, j < 6 → g5.1 47 (g.2.1 47) j = some (48, g.2.1 48 + j) := fun j hj => ((o5 47 (g.2.1 47) j (by omega)).2 (by omega)).trans (W4 j hj)
  have N5 : g5.2.1 47 = g2.2.1 47 := by rw [c5 47, if_neg (by decide), N4]
  rw [b_Street_init_72]
  refine ⟨nn 6 (by omega), ?_⟩
  refine K_pn (K := fun h => Runs _ _ h _) s5 hw (fun gi6 g6 s6 c6 i6 r6 p6 o6 a6 l6 => ?_)
  have W6 : ∀ j, j < 6 → g6.1 47 (g.2.1 47) j = some (48, g.2.1 48 + j) := fun j hj => ((o6 47 (g.2.1 47) j (by omega)).2 (by omega)).trans (W5 j hj)
  have N6 : g6.2.1 47 = g2.2.1 47 := by rw [c6 47, if_neg (by decide), N5]
  rw [b_Street_init_80]
  refine hq gi6 _ (ST_wR s6 hw) (fun t ht => ?_) ?_ ?_ ?_ ?_ ?_ (fun j hj => ?_) ?_ ?_ ?_ ?_
  · show g6.2.1 t = _
    rw [c6 t, if_neg (by omega), c5 t, if_neg (by omega), c4 t, if_neg (by omega), c3 t, if_neg (by omega), c2 t (by omega) (by omega)]
  · show ax_wR g6.1 10 w 11 (some (52, g5.2.1 52)) 10 w 7 = _
    rw [wR_at, if_neg (by omega), r6 7 (by decide), r5 7 (by decide), r4 7 (by decide), p3]
  · show ax_wR g6.1 10 w 11 (some (52, g5.2.1 52)) 10 w 8 = _
    rw [wR_at, if_neg (by omega), r6 8 (by decide), r5 8 (by decide), p4, c2 49 (by decide) (by decide)]
  · show ax_wR g6.1 10 w 11 (some (52, g5.2.1 52)) 10 w 9 = _
    rw [wR_at, if_neg (by omega), r6 9 (by decide), p5, c3 50, if_neg (by decide), c2 50 (by decide) (by decide)]
  · show ax_wR g6.1 10 w 11 (some (52, g5.2.1 52)) 10 w 10 = _
    rw [wR_at, if_neg (by omega), p6, c4 51, if_neg (by decide), c3 51, if_neg (by decide), c2 51 (by decide) (by decide)]
  · show ax_wR g6.1 10 w 11 (some (52, g5.2.1 52)) 10 w 11 = _
    rw [wR_at, if_pos ⟨rfl, rfl, rfl⟩, c5 52, if_neg (by decide), c4 52, if_neg (by decide), c3 52, if_neg (by decide), c2 52 (by decide) (by decide)]
  · show ax_wR g6.1 10 w 11 (some (52, g5.2.1 52)) 47 (g.2.1 47) j = _
    rw [wR_at, if_neg (by omega)]
    exact W6 j hj
  · show g.2.1 47 < g6.2.1 47 ∧ g6.2.1 47 ≤ g.2.1 47 + 1
    omega
  · rw [i6, i5, i4, i3, I2]
  · show g6.2.2.2.1 = _
    omega
  · show g6.2.2.2.2 = _
    omega
/-- the clerk, with its machine -/
theorem n_Clerk {d w : Nat} {F : Nat → Nat → Nat → AR} {gi : GI} {g : AG} {Q : Option AV → AH → Prop} (hU : RU F g) (hZ : ZS gi) (hw : w < g.2.1 7)
    (hq : ∀ (gi' : GI) (g' : AG), ST F gi g 7 w gi' g' → (∀ t, ¬ (t = 5 ∨ (39 ≤ t ∧ t ≤ 42)) → g'.2.1 t = g.2.1 t) → g'.2.1 5 = g.2.1 5 + 1 → g'.1 7 w 0 = some (5, g.2.1 5) → g'.1 7 w 5 = some (39, g.2.1 39) → g'.1 5 (g.2.1 5) 0 = some (41, g.2.1 41) → g'.1 5 (g.2.1 5) 1 = some (42, g.2.1 42) → g'.2.2.2.1 = g.2.2.2.1 + 4 → g'.2.2.2.2 = g.2.2.2.2 + 4366 → Q none (gi', g')) :
    ax_call (d + 2) m_Clerk_init [.inr (.inr (some (7, w)))] (gi, g) Q := by
  have s0 : ST F gi g 7 w gi g := ST_refl hU hZ
  rw [e_Clerk_init, b_Clerk_init_0]
  refine K_new (K := fun h => Runs _ _ h _) s0 hw (fun gi1 g1 s1 c1 i1 r1 o1 a1 l1 => ?_)
  rw [b_Clerk_init_8]
  have hw5 : g.2.1 5 < g1.2.1 5 := by rw [c1 5, if_pos rfl]; exact Nat.lt_succ_self _
  refine n_Mach (F := F) s1.2.1 s1.2.2.1 hw5 (fun gi2 g2 s2' c2 p0 p1 a2 l2 => ?_)
  have s2 : ST F gi g 7 w gi2 g2 := ST_sub s1 s2' (Nat.le_refl _)
  have m5 : g2.2.1 5 = g.2.1 5 + 1 := by rw [c2 5 (by omega), c1 5, if_pos rfl]
  rw [ax_psh_none, b_Clerk_init_12]
  refine ⟨nn 4290 (by omega), ?_⟩
  have s3 := ST_wR (ST_wR (ST_wR (ST_wI (ST_wI s2 (k := 3) (v := n32 0) (Or.inl rfl)) (k := 4) (v := n32 0) (Or.inl rfl)) hw (k := 0) (v := some (5, g.2.1 5))) hw (k := 1) (v := none)) hw (k := 2) (v := none)
  refine K_newl (K := fun h => Runs _ _ h _) s3 hw (fun gi4 g4 s4 c4 i4 r4 o4 a4 l4 => ?_)
  rw [b_Clerk_init_41]
  have e4 : ∀ t, g4.2.1 t = if t = 39 then g2.2.1 t + 1 else g2.2.1 t := c4
  have f4 : ∀ a j, a < g2.2.1 5 → g4.1 5 a j = g2.1 5 a j := fun a j ha => ((o4 5 a j ha).2).trans (by
    show ax_wR (ax_wR (ax_wR g2.1 7 w 0 (some (5, g.2.1 5))) 7 w 1 none) 7 w 2 none 5 a j = _
    rw [wR_at, if_neg (by omega), wR_at, if_neg (by omega), wR_at, if_neg (by omega)])
  have q0 : g4.1 7 w 0 = some (5, g.2.1 5) := (r4 0).trans (by
    show ax_wR (ax_wR (ax_wR g2.1 7 w 0 (some (5, g.2.1 5))) 7 w 1 none) 7 w 2 none 7 w 0 = _
    rw [wR_at, if_neg (by omega), wR_at, if_neg (by omega), wR_at, if_pos ⟨rfl, rfl, rfl⟩])
  refine hq gi4 _ (ST_wR s4 hw) (fun t ht => ?_) ?_ ?_ ?_ ?_ ?_ ?_ ?_
  · show g4.2.1 t = _
    rw [e4 t, if_neg (by omega), c2 t (by omega), c1 t, if_neg (by omega)]
  · show g4.2.1 5 = _
    rw [e4 5, if_neg (by decide), m5]
  · show ax_wR g4.1 7 w 5 (some (39, g2.2.1 39)) 7 w 0 = _
    rw [wR_at, if_neg (by omega), q0]
  · show ax_wR g4.1 7 w 5 (some (39, g2.2.1 39)) 7 w 5 = _
    rw [wR_at, if_pos ⟨rfl, rfl, rfl⟩, c2 39 (by omega), c1 39, if_neg (by decide)]
  · show ax_wR g4.1 7 w 5 (some (39, g2.2.1 39)) 5 (g.2.1 5) 0 = _
    rw [wR_at, if_neg (by omega), f4 _ 0 (by omega), p0, c1 41, if_neg (by decide)]
  · show ax_wR g4.1 7 w 5 (some (39, g2.2.1 39)) 5 (g.2.1 5) 1 = _
    rw [wR_at, if_neg (by omega), f4 _ 1 (by omega), p1, c1 42, if_neg (by decide)]
  · show g4.2.2.2.1 = _
    have z : g4.2.2.2.1 = g2.2.2.2.1 + 1 := a4
    omega
  · show g4.2.2.2.2 = _
    have z : g4.2.2.2.2 = g2.2.2.2.2 + 4290 := l4
    omega
