/-! the class's constructor, up to its loops -/
theorem ST_trans {F : Nat → Nat → Nat → AR} {gi0 gi1 gi2 : GI} {g0 g1 g2 : AG} {c w : Nat} (h1 : ST F gi0 g0 c w gi1 g1) (h2 : ST F gi1 g1 c w gi2 g2) : ST F gi0 g0 c w gi2 g2 := ⟨fun s a j ha hs => ⟨(h2.1 s a j (Nat.lt_of_lt_of_le ha (h1.2.2.2 s)) hs).1.trans (h1.1 s a j ha hs).1, (h2.1 s a j (Nat.lt_of_lt_of_le ha (h1.2.2.2 s)) hs).2.trans (h1.1 s a j ha hs).2⟩, h2.2.1, h2.2.2.1, fun s => Nat.le_trans (h1.2.2.2 s) (h2.2.2.2 s)⟩
def SelfR (g' : AG) : Prop := g'.1 0 0 0 = some (1, 0) ∧ g'.1 0 0 1 = some (20, 0) ∧ g'.1 0 0 2 = some (11, 0) ∧ g'.1 0 0 3 = some (22, 0) ∧ g'.1 0 0 7 = some (23, 0) ∧ g'.1 0 0 10 = some (24, 0) ∧ g'.1 0 0 12 = some (25, 0) ∧ g'.1 0 0 13 = some (6, 0) ∧ g'.1 0 0 14 = some (7, 0) ∧ g'.1 0 0 15 = some (8, 0) ∧ g'.1 0 0 16 = some (9, 0) ∧ g'.1 0 0 17 = some (10, 0) ∧ g'.1 6 0 0 = some (31, 0) ∧ g'.1 6 0 1 = some (32, 0) ∧ g'.1 6 0 2 = some (33, 0) ∧ g'.1 6 0 9 = some (34, 0) ∧ g'.1 6 0 10 = some (35, 0) ∧ g'.1 6 0 11 = some (36, 0) ∧ g'.1 6 0 12 = some (37, 0) ∧ g'.1 6 0 13 = some (38, 0) ∧ g'.1 8 0 8 = some (43, 0) ∧ g'.1 8 0 9 = some (44, 0) ∧ g'.1 9 0 8 = some (45, 0) ∧ g'.1 9 0 9 = some (46, 0) ∧ g'.1 11 0 0 = some (53, 0) ∧ g'.1 7 0 0 = some (5, 0) ∧ g'.1 7 0 5 = some (39, 0) ∧ g'.1 5 0 0 = some (41, 0) ∧ g'.1 5 0 1 = some (42, 0) ∧ g'.1 10 0 7 = some (47, 0) ∧ g'.1 10 0 8 = some (49, 0) ∧ g'.1 10 0 9 = some (50, 0) ∧ g'.1 10 0 10 = some (51, 0) ∧ g'.1 10 0 11 = some (52, 0) ∧ (∀ j, j < 6 → g'.1 47 0 j = some (48, j)) ∧ (g'.1 1 0 0 = some (26, 0) ∧ g'.1 1 0 2 = some (27, 0) ∧ g'.1 1 0 5 = some (28, 0)) ∧ (∀ k, k < 6 → g'.1 26 0 k = some (2, k)) ∧ (∀ k, k < 6 → g'.1 2 k 4 = some (29, k) ∧ g'.1 2 k 5 = some (30, k))
def SelfI (gi gi' : GI) : Prop := gi' 0 0 5 = -1 ∧ gi' 8 0 4 = -1 ∧ gi' 9 0 5 = -1 ∧ gi' 10 0 0 = -1 ∧ gi' 1 0 4 = -1 ∧ (∀ k, k < 4 → gi' 28 0 k = gi 100 0 k)
def SelfN (g g' : AG) : Prop := g'.2.1 1 = 1 ∧ g'.2.1 2 = 6 ∧ g'.2.1 5 = 1 ∧ g'.2.1 6 = 1 ∧ g'.2.1 7 = 1 ∧ g'.2.1 8 = 1 ∧ g'.2.1 9 = 1 ∧ g'.2.1 10 = 1 ∧ g'.2.1 11 = 1 ∧ g'.2.1 20 = 1 ∧ g'.2.1 25 = 1 ∧ g'.2.1 26 = 1 ∧ g'.2.1 27 = 1 ∧ g'.2.1 28 = 1 ∧ g'.2.1 29 = 6 ∧ g'.2.1 30 = 6 ∧ g'.2.1 47 = 1 ∧ ∀ t, ¬ (t = 1 ∨ t = 2 ∨ (5 ≤ t ∧ t ≤ 11) ∨ (20 ≤ t ∧ t ≤ 53)) → g'.2.1 t = g.2.1 t
set_option maxRecDepth 100000 in
theorem n_Self {d : Nat} {F : Nat → Nat → Nat → AR} {gi : GI} {g : AG} {Q : Option AV → AH → Prop} (hU : RU F g) (hZ : ZS gi) (hw : 0 < g.2.1 0) (hc : ∀ t, 1 ≤ t → t ≤ 62 → t ≠ 12 → g.2.1 t = 0) (h100 : 0 < g.2.1 100)
    (hq : ∀ (gi' : GI) (g' : AG), ST F gi g 0 0 gi' g' → SelfR g' → SelfI gi gi' → SelfN g g' → g'.2.2.2.1 ≤ g.2.2.2.1 + 70 → g'.2.2.2.2 ≤ g.2.2.2.2 + 14000 → Runs (d + 3) (m_S_init, 154, [some (.inr (.inr (some (0, 0)))), some (.inl (n32 0))], []) (gi', g') Q) :
    ax_call (d + 4) m_S_init [.inr (.inr (some (0, 0)))] (gi, g) Q := by
  rw [e_S_init, b_S_init_0]
  refine K_new (K := fun h => Runs _ _ h _) (ST_refl hU hZ) hw (fun gi0 g0 s0 c0 i0 r0 o0 a0 l0 => ?_)
  have e1 : g.2.1 1 = 0 := hc 1 (by omega) (by omega) (by omega)
  rw [b_S_init_8, e1]
  have z : ∀ t, 2 ≤ t → t ≤ 62 → t ≠ 12 → g0.2.1 t = 0 := fun t q1 q2 q3 => by rw [c0 t, if_neg (by omega), hc t (by omega) q2 q3]
  refine n_Books (F := F) s0.2.1 s0.2.2.1 (by rw [c0 1, if_pos rfl, e1]; exact Nat.one_pos) (z 26 (by omega) (by omega) (by omega)) (z 27 (by omega) (by omega) (by omega)) (z 28 (by omega) (by omega) (by omega)) (by rw [c0 100, if_neg (by omega)]; exact h100) (by omega) (fun gi1 g1 hBL hst => ?_)
  obtain ⟨s1', k1, ⟨k26, k27, k28⟩, ⟨k2, k29, k30⟩, ⟨b0, b2, b5⟩, hrow, hth, hm, ha1, hl1⟩ := hBL
  have T1 : ST F gi g 0 0 gi1 g1 := ST_sub s0 s1' (by omega)
  rw [z 2 (by omega) (by omega) (by omega)] at k2 hrow hth
  rw [z 29 (by omega) (by omega) (by omega)] at k29 hth
  rw [z 30 (by omega) (by omega) (by omega)] at k30 hth
  simp only [Nat.zero_add] at k2 k29 k30 hrow hth k26 k27 k28
  have hst : ∀ k, k < 4 → gi1 28 0 k = gi 100 0 k := fun k hk => (hst k hk).trans ((o0 100 0 k h100).1)
  have n1 : g1.2.1 1 = 1 := by rw [k1 1 (by omega), c0 1, if_pos rfl, e1]
  have D1 : ∀ t, ¬ (t = 1 ∨ t = 2 ∨ (26 ≤ t ∧ t ≤ 30)) → g1.2.1 t = g.2.1 t := fun t ht => by rw [k1 t (by omega), c0 t, if_neg (by omega)]
  have Z1 : 0 < g1.2.1 0 := Nat.lt_of_lt_of_le hw (T1.2.2.2 0)
  rw [ax_psh_none]
  have V1 : (0 : Nat) = 0 := rfl
  rw [b_S_init_12]
  refine ⟨nn 2 (by omega), ?_⟩
  refine K_pn (K := fun h => Runs _ _ h _) (ST_refl T1.2.1 T1.2.2.1) Z1 (fun gi2 g2 t2 c2 i2 r2 p2 o2 a2 l2 => ?_)
  have T2 : ST F gi1 g1 0 0 gi2 g2 := by
    exact t2
  have P0 : g2.1 0 0 0 = some (1, 0) := p2
  have D2 : ∀ t, ¬ (t = 1 ∨ t = 2 ∨ (26 ≤ t ∧ t ≤ 30) ∨ t = 20) → g2.2.1 t = g.2.1 t := fun t ht => ((c2 t).trans (if_neg (by omega))).trans (D1 t (by omega))
  have Z2 : 0 < g2.2.1 0 := Nat.lt_of_lt_of_le Z1 (T2.2.2.2 0)
  have n20 : g2.2.1 20 = 1 := by rw [c2 20, if_pos rfl, D1 20 (by omega), hc 20 (by omega) (by omega) (by omega)]
  rw [b_S_init_20]
  refine ⟨nn 400 (by omega), ?_⟩
  refine K_pn (K := fun h => Runs _ _ h _) (ST_refl T2.2.1 T2.2.2.1) Z2 (fun gi3 g3 t3 c3 i3 r3 p3 o3 a3 l3 => ?_)
  have T3 : ST F gi2 g2 0 0 gi3 g3 := by
    exact t3
  have P1 : g3.1 0 0 1 = some (20, 0) := p3.trans (by rw [D1 20 (by omega), hc 20 (by omega) (by omega) (by omega)])
  have P0 : g3.1 0 0 0 = some (1, 0) := (r3 0 (by decide)).trans P0
  have D3 : ∀ t, ¬ (t = 1 ∨ t = 2 ∨ (26 ≤ t ∧ t ≤ 30) ∨ t = 20 ∨ t = 22) → g3.2.1 t = g.2.1 t := fun t ht => ((c3 t).trans (if_neg (by omega))).trans (D2 t (by omega))
  have Z3 : 0 < g3.2.1 0 := Nat.lt_of_lt_of_le Z2 (T3.2.2.2 0)
  rw [b_S_init_29]
  refine ⟨nn 5 (by omega), ?_⟩
  refine K_pn (K := fun h => Runs _ _ h _) (ST_wI (ST_wI (ST_wI (ST_refl T3.2.1 T3.2.2.1) (k := 4) (v := n32 0) (Or.inl rfl)) (k := 5) (v := -1) (Or.inr (by unfold DZ; omega))) (k := 6) (v := n32 0) (Or.inl rfl)) Z3 (fun gi4 g4 t4 c4 i4 r4 p4 o4 a4 l4 => ?_)
  have T4 : ST F gi3 g3 0 0 gi4 g4 := by
    exact t4
  have P3 : g4.1 0 0 3 = some (22, 0) := p4.trans (by rw [D2 22 (by omega), hc 22 (by omega) (by omega) (by omega)])
  have P0 : g4.1 0 0 0 = some (1, 0) := (r4 0 (by decide)).trans P0
  have P1 : g4.1 0 0 1 = some (20, 0) := (r4 1 (by decide)).trans P1
  have J5 : gi4 0 0 5 = -1 := (i4 5).trans (by rw [wI_at, if_neg (by omega), wI_self])
  have D4 : ∀ t, ¬ (t = 1 ∨ t = 2 ∨ (26 ≤ t ∧ t ≤ 30) ∨ t = 20 ∨ t = 22 ∨ t = 23) → g4.2.1 t = g.2.1 t := fun t ht => ((c4 t).trans (if_neg (by omega))).trans (D3 t (by omega))
  have Z4 : 0 < g4.2.1 0 := Nat.lt_of_lt_of_le Z3 (T4.2.2.2 0)
  rw [b_S_init_51]
  refine ⟨nn 40 (by omega), ?_⟩
  refine K_pn (K := fun h => Runs _ _ h _) (ST_wI (ST_wI (ST_refl T4.2.1 T4.2.2.1) (k := 8) (v := n32 0) (Or.inl rfl)) (k := 9) (v := n32 0) (Or.inl rfl)) Z4 (fun gi5 g5 t5 c5 i5 r5 p5 o5 a5 l5 => ?_)
  have T5 : ST F gi4 g4 0 0 gi5 g5 := by
    exact t5
  have P7 : g5.1 0 0 7 = some (23, 0) := p5.trans (by rw [D3 23 (by omega), hc 23 (by omega) (by omega) (by omega)])
  have P0 : g5.1 0 0 0 = some (1, 0) := (r5 0 (by decide)).trans P0
  have P1 : g5.1 0 0 1 = some (20, 0) := (r5 1 (by decide)).trans P1
  have P3 : g5.1 0 0 3 = some (22, 0) := (r5 3 (by decide)).trans P3
  have J5 : gi5 0 0 5 = -1 := (i5 5).trans (by rw [wI_at, if_neg (by omega), wI_at, if_neg (by omega)]; exact J5)
  have D5 : ∀ t, ¬ (t = 1 ∨ t = 2 ∨ (26 ≤ t ∧ t ≤ 30) ∨ t = 20 ∨ t = 22 ∨ t = 23 ∨ t = 24) → g5.2.1 t = g.2.1 t := fun t ht => ((c5 t).trans (if_neg (by omega))).trans (D4 t (by omega))
  have Z5 : 0 < g5.2.1 0 := Nat.lt_of_lt_of_le Z4 (T5.2.2.2 0)
  rw [b_S_init_69]
  refine ⟨nn 6 (by omega), ?_⟩
  refine K_pn (K := fun h => Runs _ _ h _) (ST_wI (ST_refl T5.2.1 T5.2.2.1) (k := 11) (v := n32 0) (Or.inl rfl)) Z5 (fun gi6 g6 t6 c6 i6 r6 p6 o6 a6 l6 => ?_)
  have T6 : ST F gi5 g5 0 0 gi6 g6 := by
    exact t6
  have P10 : g6.1 0 0 10 = some (24, 0) := p6.trans (by rw [D4 24 (by omega), hc 24 (by omega) (by omega) (by omega)])
  have P0 : g6.1 0 0 0 = some (1, 0) := (r6 0 (by decide)).trans P0
  have P1 : g6.1 0 0 1 = some (20, 0) := (r6 1 (by decide)).trans P1
  have P3 : g6.1 0 0 3 = some (22, 0) := (r6 3 (by decide)).trans P3
  have P7 : g6.1 0 0 7 = some (23, 0) := (r6 7 (by decide)).trans P7
  have J5 : gi6 0 0 5 = -1 := (i6 5).trans (by rw [wI_at, if_neg (by omega)]; exact J5)
  have D6 : ∀ t, ¬ (t = 1 ∨ t = 2 ∨ (26 ≤ t ∧ t ≤ 30) ∨ t = 20 ∨ t = 22 ∨ t = 23 ∨ t = 24 ∨ t = 25) → g6.2.1 t = g.2.1 t := fun t ht => ((c6 t).trans (if_neg (by omega))).trans (D5 t (by omega))
  have Z6 : 0 < g6.2.1 0 := Nat.lt_of_lt_of_le Z5 (T6.2.2.2 0)
  have n25 : g6.2.1 25 = 1 := by rw [c6 25, if_pos rfl, D5 25 (by omega), hc 25 (by omega) (by omega) (by omega)]
  rw [b_S_init_83]
  refine K_pn (K := fun h => Runs _ _ h _) (ST_refl T6.2.1 T6.2.2.1) Z6 (fun gi7' g7' t7' c7 i7 r7 p7 o7 a7 l7 => ?_)
  have P12' : g7'.1 0 0 12 = some (25, 0) := p7.trans (by rw [D5 25 (by omega), hc 25 (by omega) (by omega) (by omega)])
  have P0' : g7'.1 0 0 0 = some (1, 0) := (r7 0 (by decide)).trans P0
  have P1' : g7'.1 0 0 1 = some (20, 0) := (r7 1 (by decide)).trans P1
  have P3' : g7'.1 0 0 3 = some (22, 0) := (r7 3 (by decide)).trans P3
  have P7' : g7'.1 0 0 7 = some (23, 0) := (r7 7 (by decide)).trans P7
  have P10' : g7'.1 0 0 10 = some (24, 0) := (r7 10 (by decide)).trans P10
  have x6 : g6.2.1 6 = 0 := (D6 6 (by omega)).trans (hc 6 (by omega) (by omega) (by omega))
  have y6 : ∀ t, ¬ (t = 6 ∨ t = 1 ∨ t = 2 ∨ (26 ≤ t ∧ t ≤ 30) ∨ t = 20 ∨ t = 22 ∨ t = 23 ∨ t = 24 ∨ t = 25) → 1 ≤ t → t ≤ 62 → t ≠ 12 → g7'.2.1 t = 0 := fun t ht q1 q2 q3 => by rw [c7 t, if_neg (by omega), D6 t (by omega), hc t q1 q2 q3]
  have w6 : 0 < g7'.2.1 6 := by rw [c7 6, if_pos rfl]; exact Nat.succ_pos _
  rw [b_S_init_90, x6]
  refine n_Reader (F := F) t7'.2.1 t7'.2.2.1 w6 (fun gi7 g7 s7' C7 f6_0 f6_1 f6_2 f6_9 f6_10 f6_11 f6_12 f6_13 A7 L7 => ?_)
  rw [y6 31 (by omega) (by omega) (by omega) (by omega)] at f6_0
  rw [y6 32 (by omega) (by omega) (by omega) (by omega)] at f6_1
  rw [y6 33 (by omega) (by omega) (by omega) (by omega)] at f6_2
  rw [y6 34 (by omega) (by omega) (by omega) (by omega)] at f6_9
  rw [y6 35 (by omega) (by omega) (by omega) (by omega)] at f6_10
  rw [y6 36 (by omega) (by omega) (by omega) (by omega)] at f6_11
  rw [y6 37 (by omega) (by omega) (by omega) (by omega)] at f6_12
  rw [y6 38 (by omega) (by omega) (by omega) (by omega)] at f6_13
  have n6 : g7.2.1 6 = 1 := by rw [C7 6 (by omega), c7 6, if_pos rfl, x6]
  have T7 : ST F gi6 g6 0 0 gi7 g7 := ST_sub t7' s7' (by omega)
  have q7 : 0 < g7'.2.1 0 := Nat.lt_of_lt_of_le Z6 (t7'.2.2.2 0)
  have P0 : g7.1 0 0 0 = some (1, 0) := ((s7'.1 0 0 0 q7 (by omega)).2).trans P0'
  have P1 : g7.1 0 0 1 = some (20, 0) := ((s7'.1 0 0 1 q7 (by omega)).2).trans P1'
  have P3 : g7.1 0 0 3 = some (22, 0) := ((s7'.1 0 0 3 q7 (by omega)).2).trans P3'
  have P7 : g7.1 0 0 7 = some (23, 0) := ((s7'.1 0 0 7 q7 (by omega)).2).trans P7'
  have P10 : g7.1 0 0 10 = some (24, 0) := ((s7'.1 0 0 10 q7 (by omega)).2).trans P10'
  have P12 : g7.1 0 0 12 = some (25, 0) := ((s7'.1 0 0 12 q7 (by omega)).2).trans P12'
  have J5 : gi7 0 0 5 = -1 := ((s7'.1 0 0 5 q7 (by omega)).1).trans ((i7 5).trans J5)
  have D7 : ∀ t, ¬ (t = 1 ∨ t = 2 ∨ (26 ≤ t ∧ t ≤ 30) ∨ t = 20 ∨ t = 22 ∨ t = 23 ∨ t = 24 ∨ t = 25 ∨ t = 6 ∨ (31 ≤ t ∧ t ≤ 38)) → g7.2.1 t = g.2.1 t := fun t ht => (C7 t (by omega)).trans (((c7 t).trans (if_neg (by omega))).trans (D6 t (by omega)))
  have Z7 : 0 < g7.2.1 0 := Nat.lt_of_lt_of_le Z6 (T7.2.2.2 0)
  rw [ax_psh_none]
  rw [b_S_init_94]
  refine K_pn (K := fun h => Runs _ _ h _) (ST_refl T7.2.1 T7.2.2.1) Z7 (fun gi8' g8' t8' c8 i8 r8 p8 o8 a8 l8 => ?_)
  have P13' : g8'.1 0 0 13 = some (6, 0) := p8
  have P0' : g8'.1 0 0 0 = some (1, 0) := (r8 0 (by decide)).trans P0
  have P1' : g8'.1 0 0 1 = some (20, 0) := (r8 1 (by decide)).trans P1
  have P3' : g8'.1 0 0 3 = some (22, 0) := (r8 3 (by decide)).trans P3
  have P7' : g8'.1 0 0 7 = some (23, 0) := (r8 7 (by decide)).trans P7
  have P10' : g8'.1 0 0 10 = some (24, 0) := (r8 10 (by decide)).trans P10
  have P12' : g8'.1 0 0 12 = some (25, 0) := (r8 12 (by decide)).trans P12
  have x7 : g7.2.1 7 = 0 := (D7 7 (by omega)).trans (hc 7 (by omega) (by omega) (by omega))
  have y7 : ∀ t, ¬ (t = 7 ∨ t = 1 ∨ t = 2 ∨ (26 ≤ t ∧ t ≤ 30) ∨ t = 20 ∨ t = 22 ∨ t = 23 ∨ t = 24 ∨ t = 25 ∨ t = 6 ∨ (31 ≤ t ∧ t ≤ 38)) → 1 ≤ t → t ≤ 62 → t ≠ 12 → g8'.2.1 t = 0 := fun t ht q1 q2 q3 => by rw [c8 t, if_neg (by omega), D7 t (by omega), hc t q1 q2 q3]
  have w7 : 0 < g8'.2.1 7 := by rw [c8 7, if_pos rfl]; exact Nat.succ_pos _
  rw [b_S_init_101, x7]
  refine n_Clerk (F := F) t8'.2.1 t8'.2.2.1 w7 (fun gi8 g8 s8' C8 n5 f7_0 f7_5 f5_0 f5_1 A8 L8 => ?_)
  rw [y7 5 (by omega) (by omega) (by omega) (by omega)] at n5 f7_0 f5_0 f5_1
  rw [y7 39 (by omega) (by omega) (by omega) (by omega)] at f7_5
  rw [y7 41 (by omega) (by omega) (by omega) (by omega)] at f5_0
  rw [y7 42 (by omega) (by omega) (by omega) (by omega)] at f5_1
  have n7 : g8.2.1 7 = 1 := by rw [C8 7 (by omega), c8 7, if_pos rfl, x7]
  have T8 : ST F gi7 g7 0 0 gi8 g8 := ST_sub t8' s8' (by omega)
  have q8 : 0 < g8'.2.1 0 := Nat.lt_of_lt_of_le Z7 (t8'.2.2.2 0)
  have P0 : g8.1 0 0 0 = some (1, 0) := ((s8'.1 0 0 0 q8 (by omega)).2).trans P0'
  have P1 : g8.1 0 0 1 = some (20, 0) := ((s8'.1 0 0 1 q8 (by omega)).2).trans P1'
  have P3 : g8.1 0 0 3 = some (22, 0) := ((s8'.1 0 0 3 q8 (by omega)).2).trans P3'
  have P7 : g8.1 0 0 7 = some (23, 0) := ((s8'.1 0 0 7 q8 (by omega)).2).trans P7'
  have P10 : g8.1 0 0 10 = some (24, 0) := ((s8'.1 0 0 10 q8 (by omega)).2).trans P10'
  have P12 : g8.1 0 0 12 = some (25, 0) := ((s8'.1 0 0 12 q8 (by omega)).2).trans P12'
  have P13 : g8.1 0 0 13 = some (6, 0) := ((s8'.1 0 0 13 q8 (by omega)).2).trans P13'
  have J5 : gi8 0 0 5 = -1 := ((s8'.1 0 0 5 q8 (by omega)).1).trans ((i8 5).trans J5)
  have D8 : ∀ t, ¬ (t = 1 ∨ t = 2 ∨ (26 ≤ t ∧ t ≤ 30) ∨ t = 20 ∨ t = 22 ∨ t = 23 ∨ t = 24 ∨ t = 25 ∨ t = 6 ∨ (31 ≤ t ∧ t ≤ 38) ∨ t = 7 ∨ t = 5 ∨ (39 ≤ t ∧ t ≤ 42)) → g8.2.1 t = g.2.1 t := fun t ht => (C8 t (by omega)).trans (((c8 t).trans (if_neg (by omega))).trans (D7 t (by omega)))
  have Z8 : 0 < g8.2.1 0 := Nat.lt_of_lt_of_le Z7 (T8.2.2.2 0)
  rw [ax_psh_none]
  rw [b_S_init_105]
  refine K_pn (K := fun h => Runs _ _ h _) (ST_refl T8.2.1 T8.2.2.1) Z8 (fun gi9' g9' t9' c9 i9 r9 p9 o9 a9 l9 => ?_)
  have P14' : g9'.1 0 0 14 = some (7, 0) := p9
  have P0' : g9'.1 0 0 0 = some (1, 0) := (r9 0 (by decide)).trans P0
  have P1' : g9'.1 0 0 1 = some (20, 0) := (r9 1 (by decide)).trans P1
  have P3' : g9'.1 0 0 3 = some (22, 0) := (r9 3 (by decide)).trans P3
  have P7' : g9'.1 0 0 7 = some (23, 0) := (r9 7 (by decide)).trans P7
  have P10' : g9'.1 0 0 10 = some (24, 0) := (r9 10 (by decide)).trans P10
  have P12' : g9'.1 0 0 12 = some (25, 0) := (r9 12 (by decide)).trans P12
  have P13' : g9'.1 0 0 13 = some (6, 0) := (r9 13 (by decide)).trans P13
  have x8 : g8.2.1 8 = 0 := (D8 8 (by omega)).trans (hc 8 (by omega) (by omega) (by omega))
  have y8 : ∀ t, ¬ (t = 8 ∨ t = 1 ∨ t = 2 ∨ (26 ≤ t ∧ t ≤ 30) ∨ t = 20 ∨ t = 22 ∨ t = 23 ∨ t = 24 ∨ t = 25 ∨ t = 6 ∨ (31 ≤ t ∧ t ≤ 38) ∨ t = 7 ∨ t = 5 ∨ (39 ≤ t ∧ t ≤ 42)) → 1 ≤ t → t ≤ 62 → t ≠ 12 → g9'.2.1 t = 0 := fun t ht q1 q2 q3 => by rw [c9 t, if_neg (by omega), D8 t (by omega), hc t q1 q2 q3]
  have w8 : 0 < g9'.2.1 8 := by rw [c9 8, if_pos rfl]; exact Nat.succ_pos _
  rw [b_S_init_112, x8]
  refine n_Freeing (F := F) t9'.2.1 t9'.2.2.1 w8 (fun gi9 g9 s9' C9 f8_8 f8_9 m8 A9 L9 => ?_)
  rw [y8 43 (by omega) (by omega) (by omega) (by omega)] at f8_8
  rw [y8 44 (by omega) (by omega) (by omega) (by omega)] at f8_9
  have n8 : g9.2.1 8 = 1 := by rw [C9 8 (by omega), c9 8, if_pos rfl, x8]
  have T9 : ST F gi8 g8 0 0 gi9 g9 := ST_sub t9' s9' (by omega)
  have q9 : 0 < g9'.2.1 0 := Nat.lt_of_lt_of_le Z8 (t9'.2.2.2 0)
  have P0 : g9.1 0 0 0 = some (1, 0) := ((s9'.1 0 0 0 q9 (by omega)).2).trans P0'
  have P1 : g9.1 0 0 1 = some (20, 0) := ((s9'.1 0 0 1 q9 (by omega)).2).trans P1'
  have P3 : g9.1 0 0 3 = some (22, 0) := ((s9'.1 0 0 3 q9 (by omega)).2).trans P3'
  have P7 : g9.1 0 0 7 = some (23, 0) := ((s9'.1 0 0 7 q9 (by omega)).2).trans P7'
  have P10 : g9.1 0 0 10 = some (24, 0) := ((s9'.1 0 0 10 q9 (by omega)).2).trans P10'
  have P12 : g9.1 0 0 12 = some (25, 0) := ((s9'.1 0 0 12 q9 (by omega)).2).trans P12'
  have P13 : g9.1 0 0 13 = some (6, 0) := ((s9'.1 0 0 13 q9 (by omega)).2).trans P13'
  have P14 : g9.1 0 0 14 = some (7, 0) := ((s9'.1 0 0 14 q9 (by omega)).2).trans P14'
  have J5 : gi9 0 0 5 = -1 := ((s9'.1 0 0 5 q9 (by omega)).1).trans ((i9 5).trans J5)
  have D9 : ∀ t, ¬ (t = 1 ∨ t = 2 ∨ (26 ≤ t ∧ t ≤ 30) ∨ t = 20 ∨ t = 22 ∨ t = 23 ∨ t = 24 ∨ t = 25 ∨ t = 6 ∨ (31 ≤ t ∧ t ≤ 38) ∨ t = 7 ∨ t = 5 ∨ (39 ≤ t ∧ t ≤ 42) ∨ t = 8 ∨ t = 43 ∨ t = 44) → g9.2.1 t = g.2.1 t := fun t ht => (C9 t (by omega)).trans (((c9 t).trans (if_neg (by omega))).trans (D8 t (by omega)))
  have Z9 : 0 < g9.2.1 0 := Nat.lt_of_lt_of_le Z8 (T9.2.2.2 0)
  rw [ax_psh_none]
  rw [b_S_init_116]
  refine K_pn (K := fun h => Runs _ _ h _) (ST_refl T9.2.1 T9.2.2.1) Z9 (fun gi10' g10' t10' c10 i10 r10 p10 o10 a10 l10 => ?_)
  have P15' : g10'.1 0 0 15 = some (8, 0) := p10
  have P0' : g10'.1 0 0 0 = some (1, 0) := (r10 0 (by decide)).trans P0
  have P1' : g10'.1 0 0 1 = some (20, 0) := (r10 1 (by decide)).trans P1
  have P3' : g10'.1 0 0 3 = some (22, 0) := (r10 3 (by decide)).trans P3
  have P7' : g10'.1 0 0 7 = some (23, 0) := (r10 7 (by decide)).trans P7
  have P10' : g10'.1 0 0 10 = some (24, 0) := (r10 10 (by decide)).trans P10
  have P12' : g10'.1 0 0 12 = some (25, 0) := (r10 12 (by decide)).trans P12
  have P13' : g10'.1 0 0 13 = some (6, 0) := (r10 13 (by decide)).trans P13
  have P14' : g10'.1 0 0 14 = some (7, 0) := (r10 14 (by decide)).trans P14
  have x9 : g9.2.1 9 = 0 := (D9 9 (by omega)).trans (hc 9 (by omega) (by omega) (by omega))
  have y9 : ∀ t, ¬ (t = 9 ∨ t = 1 ∨ t = 2 ∨ (26 ≤ t ∧ t ≤ 30) ∨ t = 20 ∨ t = 22 ∨ t = 23 ∨ t = 24 ∨ t = 25 ∨ t = 6 ∨ (31 ≤ t ∧ t ≤ 38) ∨ t = 7 ∨ t = 5 ∨ (39 ≤ t ∧ t ≤ 42) ∨ t = 8 ∨ t = 43 ∨ t = 44) → 1 ≤ t → t ≤ 62 → t ≠ 12 → g10'.2.1 t = 0 := fun t ht q1 q2 q3 => by rw [c10 t, if_neg (by omega), D9 t (by omega), hc t q1 q2 q3]
  have w9 : 0 < g10'.2.1 9 := by rw [c10 9, if_pos rfl]; exact Nat.succ_pos _
  rw [b_S_init_123, x9]
  refine n_Filling (F := F) t10'.2.1 t10'.2.2.1 w9 (fun gi10 g10 s10' C10 f9_8 f9_9 m9 A10 L10 => ?_)
  rw [y9 45 (by omega) (by omega) (by omega) (by omega)] at f9_8
  rw [y9 46 (by omega) (by omega) (by omega) (by omega)] at f9_9
  have n9 : g10.2.1 9 = 1 := by rw [C10 9 (by omega), c10 9, if_pos rfl, x9]
  have T10 : ST F gi9 g9 0 0 gi10 g10 := ST_sub t10' s10' (by omega)
  have q10 : 0 < g10'.2.1 0 := Nat.lt_of_lt_of_le Z9 (t10'.2.2.2 0)
  have P0 : g10.1 0 0 0 = some (1, 0) := ((s10'.1 0 0 0 q10 (by omega)).2).trans P0'
  have P1 : g10.1 0 0 1 = some (20, 0) := ((s10'.1 0 0 1 q10 (by omega)).2).trans P1'
  have P3 : g10.1 0 0 3 = some (22, 0) := ((s10'.1 0 0 3 q10 (by omega)).2).trans P3'
  have P7 : g10.1 0 0 7 = some (23, 0) := ((s10'.1 0 0 7 q10 (by omega)).2).trans P7'
  have P10 : g10.1 0 0 10 = some (24, 0) := ((s10'.1 0 0 10 q10 (by omega)).2).trans P10'
  have P12 : g10.1 0 0 12 = some (25, 0) := ((s10'.1 0 0 12 q10 (by omega)).2).trans P12'
  have P13 : g10.1 0 0 13 = some (6, 0) := ((s10'.1 0 0 13 q10 (by omega)).2).trans P13'
  have P14 : g10.1 0 0 14 = some (7, 0) := ((s10'.1 0 0 14 q10 (by omega)).2).trans P14'
  have P15 : g10.1 0 0 15 = some (8, 0) := ((s10'.1 0 0 15 q10 (by omega)).2).trans P15'
  have J5 : gi10 0 0 5 = -1 := ((s10'.1 0 0 5 q10 (by omega)).1).trans ((i10 5).trans J5)
  have D10 : ∀ t, ¬ (t = 1 ∨ t = 2 ∨ (26 ≤ t ∧ t ≤ 30) ∨ t = 20 ∨ t = 22 ∨ t = 23 ∨ t = 24 ∨ t = 25 ∨ t = 6 ∨ (31 ≤ t ∧ t ≤ 38) ∨ t = 7 ∨ t = 5 ∨ (39 ≤ t ∧ t ≤ 42) ∨ t = 8 ∨ t = 43 ∨ t = 44 ∨ t = 9 ∨ t = 45 ∨ t = 46) → g10.2.1 t = g.2.1 t := fun t ht => (C10 t (by omega)).trans (((c10 t).trans (if_neg (by omega))).trans (D9 t (by omega)))
  have Z10 : 0 < g10.2.1 0 := Nat.lt_of_lt_of_le Z9 (T10.2.2.2 0)
  rw [ax_psh_none]
  rw [b_S_init_127]
  refine K_pn (K := fun h => Runs _ _ h _) (ST_refl T10.2.1 T10.2.2.1) Z10 (fun gi11' g11' t11' c11 i11 r11 p11 o11 a11 l11 => ?_)
  have P16' : g11'.1 0 0 16 = some (9, 0) := p11
  have P0' : g11'.1 0 0 0 = some (1, 0) := (r11 0 (by decide)).trans P0
  have P1' : g11'.1 0 0 1 = some (20, 0) := (r11 1 (by decide)).trans P1
  have P3' : g11'.1 0 0 3 = some (22, 0) := (r11 3 (by decide)).trans P3
  have P7' : g11'.1 0 0 7 = some (23, 0) := (r11 7 (by decide)).trans P7
  have P10' : g11'.1 0 0 10 = some (24, 0) := (r11 10 (by decide)).trans P10
  have P12' : g11'.1 0 0 12 = some (25, 0) := (r11 12 (by decide)).trans P12
  have P13' : g11'.1 0 0 13 = some (6, 0) := (r11 13 (by decide)).trans P13
  have P14' : g11'.1 0 0 14 = some (7, 0) := (r11 14 (by decide)).trans P14
  have P15' : g11'.1 0 0 15 = some (8, 0) := (r11 15 (by decide)).trans P15
  have x10 : g10.2.1 10 = 0 := (D10 10 (by omega)).trans (hc 10 (by omega) (by omega) (by omega))
  have y10 : ∀ t, ¬ (t = 10 ∨ t = 1 ∨ t = 2 ∨ (26 ≤ t ∧ t ≤ 30) ∨ t = 20 ∨ t = 22 ∨ t = 23 ∨ t = 24 ∨ t = 25 ∨ t = 6 ∨ (31 ≤ t ∧ t ≤ 38) ∨ t = 7 ∨ t = 5 ∨ (39 ≤ t ∧ t ≤ 42) ∨ t = 8 ∨ t = 43 ∨ t = 44 ∨ t = 9 ∨ t = 45 ∨ t = 46) → 1 ≤ t → t ≤ 62 → t ≠ 12 → g11'.2.1 t = 0 := fun t ht q1 q2 q3 => by rw [c11 t, if_neg (by omega), D10 t (by omega), hc t q1 q2 q3]
  have w10 : 0 < g11'.2.1 10 := by rw [c11 10, if_pos rfl]; exact Nat.succ_pos _
  rw [b_S_init_134, x10]
  refine n_Street (F := F) t11'.2.1 t11'.2.2.1 w10 (fun gi11 g11 s11' C11 f10_7 f10_8 f10_9 f10_10 f10_11 f47 n47 m10 A11 L11 => ?_)
  rw [y10 47 (by omega) (by omega) (by omega) (by omega)] at f10_7 f47 n47
  rw [y10 48 (by omega) (by omega) (by omega) (by omega)] at f47
  simp only [Nat.zero_add] at f47
  rw [y10 49 (by omega) (by omega) (by omega) (by omega)] at f10_8
  rw [y10 50 (by omega) (by omega) (by omega) (by omega)] at f10_9
  rw [y10 51 (by omega) (by omega) (by omega) (by omega)] at f10_10
  rw [y10 52 (by omega) (by omega) (by omega) (by omega)] at f10_11
  have n10 : g11.2.1 10 = 1 := by rw [C11 10 (by omega), c11 10, if_pos rfl, x10]
  have T11 : ST F gi10 g10 0 0 gi11 g11 := ST_sub t11' s11' (by omega)
  have q11 : 0 < g11'.2.1 0 := Nat.lt_of_lt_of_le Z10 (t11'.2.2.2 0)
  have P0 : g11.1 0 0 0 = some (1, 0) := ((s11'.1 0 0 0 q11 (by omega)).2).trans P0'
  have P1 : g11.1 0 0 1 = some (20, 0) := ((s11'.1 0 0 1 q11 (by omega)).2).trans P1'
  have P3 : g11.1 0 0 3 = some (22, 0) := ((s11'.1 0 0 3 q11 (by omega)).2).trans P3'
  have P7 : g11.1 0 0 7 = some (23, 0) := ((s11'.1 0 0 7 q11 (by omega)).2).trans P7'
  have P10 : g11.1 0 0 10 = some (24, 0) := ((s11'.1 0 0 10 q11 (by omega)).2).trans P10'
  have P12 : g11.1 0 0 12 = some (25, 0) := ((s11'.1 0 0 12 q11 (by omega)).2).trans P12'
  have P13 : g11.1 0 0 13 = some (6, 0) := ((s11'.1 0 0 13 q11 (by omega)).2).trans P13'
  have P14 : g11.1 0 0 14 = some (7, 0) := ((s11'.1 0 0 14 q11 (by omega)).2).trans P14'
  have P15 : g11.1 0 0 15 = some (8, 0) := ((s11'.1 0 0 15 q11 (by omega)).2).trans P15'
  have P16 : g11.1 0 0 16 = some (9, 0) := ((s11'.1 0 0 16 q11 (by omega)).2).trans P16'
  have J5 : gi11 0 0 5 = -1 := ((s11'.1 0 0 5 q11 (by omega)).1).trans ((i11 5).trans J5)
  have D11 : ∀ t, ¬ (t = 1 ∨ t = 2 ∨ (26 ≤ t ∧ t ≤ 30) ∨ t = 20 ∨ t = 22 ∨ t = 23 ∨ t = 24 ∨ t = 25 ∨ t = 6 ∨ (31 ≤ t ∧ t ≤ 38) ∨ t = 7 ∨ t = 5 ∨ (39 ≤ t ∧ t ≤ 42) ∨ t = 8 ∨ t = 43 ∨ t = 44 ∨ t = 9 ∨ t = 45 ∨ t = 46 ∨ t = 10 ∨ (47 ≤ t ∧ t ≤ 52)) → g11.2.1 t = g.2.1 t := fun t ht => (C11 t (by omega)).trans (((c11 t).trans (if_neg (by omega))).trans (D10 t (by omega)))
  have Z11 : 0 < g11.2.1 0 := Nat.lt_of_lt_of_le Z10 (T11.2.2.2 0)
  rw [ax_psh_none]
  rw [b_S_init_138]
  refine K_pn (K := fun h => Runs _ _ h _) (ST_refl T11.2.1 T11.2.2.1) Z11 (fun gi12' g12' t12' c12 i12 r12 p12 o12 a12 l12 => ?_)
  have P17' : g12'.1 0 0 17 = some (10, 0) := p12
  have P0' : g12'.1 0 0 0 = some (1, 0) := (r12 0 (by decide)).trans P0
  have P1' : g12'.1 0 0 1 = some (20, 0) := (r12 1 (by decide)).trans P1
  have P3' : g12'.1 0 0 3 = some (22, 0) := (r12 3 (by decide)).trans P3
  have P7' : g12'.1 0 0 7 = some (23, 0) := (r12 7 (by decide)).trans P7
  have P10' : g12'.1 0 0 10 = some (24, 0) := (r12 10 (by decide)).trans P10
  have P12' : g12'.1 0 0 12 = some (25, 0) := (r12 12 (by decide)).trans P12
  have P13' : g12'.1 0 0 13 = some (6, 0) := (r12 13 (by decide)).trans P13
  have P14' : g12'.1 0 0 14 = some (7, 0) := (r12 14 (by decide)).trans P14
  have P15' : g12'.1 0 0 15 = some (8, 0) := (r12 15 (by decide)).trans P15
  have P16' : g12'.1 0 0 16 = some (9, 0) := (r12 16 (by decide)).trans P16
  have x11 : g11.2.1 11 = 0 := (D11 11 (by omega)).trans (hc 11 (by omega) (by omega) (by omega))
  have y11 : ∀ t, ¬ (t = 11 ∨ t = 1 ∨ t = 2 ∨ (26 ≤ t ∧ t ≤ 30) ∨ t = 20 ∨ t = 22 ∨ t = 23 ∨ t = 24 ∨ t = 25 ∨ t = 6 ∨ (31 ≤ t ∧ t ≤ 38) ∨ t = 7 ∨ t = 5 ∨ (39 ≤ t ∧ t ≤ 42) ∨ t = 8 ∨ t = 43 ∨ t = 44 ∨ t = 9 ∨ t = 45 ∨ t = 46 ∨ t = 10 ∨ (47 ≤ t ∧ t ≤ 52)) → 1 ≤ t → t ≤ 62 → t ≠ 12 → g12'.2.1 t = 0 := fun t ht q1 q2 q3 => by rw [c12 t, if_neg (by omega), D11 t (by omega), hc t q1 q2 q3]
  have w11 : 0 < g12'.2.1 11 := by rw [c12 11, if_pos rfl]; exact Nat.succ_pos _
  rw [b_S_init_145, x11]
  refine n_Ruler (F := F) t12'.2.1 t12'.2.2.1 w11 (fun gi12 g12 s12' C12 f11_0 A12 L12 => ?_)
  rw [y11 53 (by omega) (by omega) (by omega) (by omega)] at f11_0
  have n11 : g12.2.1 11 = 1 := by rw [C12 11 (by omega), c12 11, if_pos rfl, x11]
  have T12 : ST F gi11 g11 0 0 gi12 g12 := ST_sub t12' s12' (by omega)
  have q12 : 0 < g12'.2.1 0 := Nat.lt_of_lt_of_le Z11 (t12'.2.2.2 0)
  have P0 : g12.1 0 0 0 = some (1, 0) := ((s12'.1 0 0 0 q12 (by omega)).2).trans P0'
  have P1 : g12.1 0 0 1 = some (20, 0) := ((s12'.1 0 0 1 q12 (by omega)).2).trans P1'
  have P3 : g12.1 0 0 3 = some (22, 0) := ((s12'.1 0 0 3 q12 (by omega)).2).trans P3'
  have P7 : g12.1 0 0 7 = some (23, 0) := ((s12'.1 0 0 7 q12 (by omega)).2).trans P7'
  have P10 : g12.1 0 0 10 = some (24, 0) := ((s12'.1 0 0 10 q12 (by omega)).2).trans P10'
  have P12 : g12.1 0 0 12 = some (25, 0) := ((s12'.1 0 0 12 q12 (by omega)).2).trans P12'
  have P13 : g12.1 0 0 13 = some (6, 0) := ((s12'.1 0 0 13 q12 (by omega)).2).trans P13'
  have P14 : g12.1 0 0 14 = some (7, 0) := ((s12'.1 0 0 14 q12 (by omega)).2).trans P14'
  have P15 : g12.1 0 0 15 = some (8, 0) := ((s12'.1 0 0 15 q12 (by omega)).2).trans P15'
  have P16 : g12.1 0 0 16 = some (9, 0) := ((s12'.1 0 0 16 q12 (by omega)).2).trans P16'
  have P17 : g12.1 0 0 17 = some (10, 0) := ((s12'.1 0 0 17 q12 (by omega)).2).trans P17'
  have J5 : gi12 0 0 5 = -1 := ((s12'.1 0 0 5 q12 (by omega)).1).trans ((i12 5).trans J5)
  have D12 : ∀ t, ¬ (t = 1 ∨ t = 2 ∨ (26 ≤ t ∧ t ≤ 30) ∨ t = 20 ∨ t = 22 ∨ t = 23 ∨ t = 24 ∨ t = 25 ∨ t = 6 ∨ (31 ≤ t ∧ t ≤ 38) ∨ t = 7 ∨ t = 5 ∨ (39 ≤ t ∧ t ≤ 42) ∨ t = 8 ∨ t = 43 ∨ t = 44 ∨ t = 9 ∨ t = 45 ∨ t = 46 ∨ t = 10 ∨ (47 ≤ t ∧ t ≤ 52) ∨ t = 11 ∨ t = 53) → g12.2.1 t = g.2.1 t := fun t ht => (C12 t (by omega)).trans (((c12 t).trans (if_neg (by omega))).trans (D11 t (by omega)))
  have Z12 : 0 < g12.2.1 0 := Nat.lt_of_lt_of_le Z11 (T12.2.2.2 0)
  rw [ax_psh_none]
  rw [b_S_init_149]
  have R12 : ST F gi12 g12 0 0 gi12 (ax_wR g12.1 0 0 2 (some (11, 0)), g12.2) := ST_wR (ST_refl T12.2.1 T12.2.2.1) Z12
  have R11 : ST F gi11 g11 0 0 gi12 (ax_wR g12.1 0 0 2 (some (11, 0)), g12.2) := ST_trans T12 R12
  have R10 : ST F gi10 g10 0 0 gi12 (ax_wR g12.1 0 0 2 (some (11, 0)), g12.2) := ST_trans T11 R11
  have R9 : ST F gi9 g9 0 0 gi12 (ax_wR g12.1 0 0 2 (some (11, 0)), g12.2) := ST_trans T10 R10
  have R8 : ST F gi8 g8 0 0 gi12 (ax_wR g12.1 0 0 2 (some (11, 0)), g12.2) := ST_trans T9 R9
  have R7 : ST F gi7 g7 0 0 gi12 (ax_wR g12.1 0 0 2 (some (11, 0)), g12.2) := ST_trans T8 R8
  have R6 : ST F gi6 g6 0 0 gi12 (ax_wR g12.1 0 0 2 (some (11, 0)), g12.2) := ST_trans T7 R7
  have R5 : ST F gi5 g5 0 0 gi12 (ax_wR g12.1 0 0 2 (some (11, 0)), g12.2) := ST_trans T6 R6
  have R4 : ST F gi4 g4 0 0 gi12 (ax_wR g12.1 0 0 2 (some (11, 0)), g12.2) := ST_trans T5 R5
  have R3 : ST F gi3 g3 0 0 gi12 (ax_wR g12.1 0 0 2 (some (11, 0)), g12.2) := ST_trans T4 R4
  have R2 : ST F gi2 g2 0 0 gi12 (ax_wR g12.1 0 0 2 (some (11, 0)), g12.2) := ST_trans T3 R3
  have R1 : ST F gi1 g1 0 0 gi12 (ax_wR g12.1 0 0 2 (some (11, 0)), g12.2) := ST_trans T2 R2
  have HR : SelfR (ax_wR g12.1 0 0 2 (some (11, 0)), g12.2) := ⟨by show ax_wR g12.1 0 0 2 (some (11, 0)) 0 0 0 = _; rw [wR_at, if_neg (by omega), P0], by show ax_wR g12.1 0 0 2 (some (11, 0)) 0 0 1 = _; rw [wR_at, if_neg (by omega), P1], by show ax_wR g12.1 0 0 2 (some (11, 0)) 0 0 2 = _; rw [wR_at, if_pos ⟨rfl, rfl, rfl⟩], by show ax_wR g12.1 0 0 2 (some (11, 0)) 0 0 3 = _; rw [wR_at, if_neg (by omega), P3], by show ax_wR g12.1 0 0 2 (some (11, 0)) 0 0 7 = _; rw [wR_at, if_neg (by omega), P7], by show ax_wR g12.1 0 0 2 (some (11, 0)) 0 0 10 = _; rw [wR_at, if_neg (by omega), P10], by show ax_wR g12.1 0 0 2 (some (11, 0)) 0 0 12 = _; rw [wR_at, if_neg (by omega), P12], by show ax_wR g12.1 0 0 2 (some (11, 0)) 0 0 13 = _; rw [wR_at, if_neg (by omega), P13], by show ax_wR g12.1 0 0 2 (some (11, 0)) 0 0 14 = _; rw [wR_at, if_neg (by omega), P14], by show ax_wR g12.1 0 0 2 (some (11, 0)) 0 0 15 = _; rw [wR_at, if_neg (by omega), P15], by show ax_wR g12.1 0 0 2 (some (11, 0)) 0 0 16 = _; rw [wR_at, if_neg (by omega), P16], by show ax_wR g12.1 0 0 2 (some (11, 0)) 0 0 17 = _; rw [wR_at, if_neg (by omega), P17], ((R7.1 6 0 0 (by omega) (by omega)).2).trans f6_0, ((R7.1 6 0 1 (by omega) (by omega)).2).trans f6_1, ((R7.1 6 0 2 (by omega) (by omega)).2).trans f6_2, ((R7.1 6 0 9 (by omega) (by omega)).2).trans f6_9, ((R7.1 6 0 10 (by omega) (by omega)).2).trans f6_10, ((R7.1 6 0 11 (by omega) (by omega)).2).trans f6_11, ((R7.1 6 0 12 (by omega) (by omega)).2).trans f6_12, ((R7.1 6 0 13 (by omega) (by omega)).2).trans f6_13, ((R9.1 8 0 8 (by omega) (by omega)).2).trans f8_8, ((R9.1 8 0 9 (by omega) (by omega)).2).trans f8_9, ((R10.1 9 0 8 (by omega) (by omega)).2).trans f9_8, ((R10.1 9 0 9 (by omega) (by omega)).2).trans f9_9, ((R12.1 11 0 0 (by omega) (by omega)).2).trans f11_0, ((R8.1 7 0 0 (by omega) (by omega)).2).trans f7_0, ((R8.1 7 0 5 (by omega) (by omega)).2).trans f7_5, ((R8.1 5 0 0 (by omega) (by omega)).2).trans f5_0, ((R8.1 5 0 1 (by omega) (by omega)).2).trans f5_1, ((R11.1 10 0 7 (by omega) (by omega)).2).trans f10_7, ((R11.1 10 0 8 (by omega) (by omega)).2).trans f10_8, ((R11.1 10 0 9 (by omega) (by omega)).2).trans f10_9, ((R11.1 10 0 10 (by omega) (by omega)).2).trans f10_10, ((R11.1 10 0 11 (by omega) (by omega)).2).trans f10_11, fun j hj => ((R11.1 47 0 j (by omega) (by omega)).2).trans (f47 j hj), ⟨((R1.1 1 0 0 (by omega) (by omega)).2).trans b0, ((R1.1 1 0 2 (by omega) (by omega)).2).trans b2, ((R1.1 1 0 5 (by omega) (by omega)).2).trans b5⟩, fun k hk => ((R1.1 26 0 k (by omega) (by omega)).2).trans (hrow k hk), fun k hk => ⟨((R1.1 2 k 4 (by omega) (by omega)).2).trans (hth k hk).1, ((R1.1 2 k 5 (by omega) (by omega)).2).trans (hth k hk).2⟩⟩
  have HI : SelfI gi gi12 := ⟨J5, ((R9.1 8 0 4 (by omega) (by omega)).1).trans m8, ((R10.1 9 0 5 (by omega) (by omega)).1).trans m9, ((R11.1 10 0 0 (by omega) (by omega)).1).trans m10, ((R1.1 1 0 4 (by omega) (by omega)).1).trans hm, fun k hk => ((R1.1 28 0 k (by omega) (by omega)).1).trans (hst k hk)⟩
  have HN : SelfN g (ax_wR g12.1 0 0 2 (some (11, 0)), g12.2) := ⟨by show g12.2.1 1 = _; rw [C12 1 (by omega), c12 1, if_neg (by omega), C11 1 (by omega), c11 1, if_neg (by omega), C10 1 (by omega), c10 1, if_neg (by omega), C9 1 (by omega), c9 1, if_neg (by omega), C8 1 (by omega), c8 1, if_neg (by omega), C7 1 (by omega), c7 1, if_neg (by omega), c6 1, if_neg (by omega), c5 1, if_neg (by omega), c4 1, if_neg (by omega), c3 1, if_neg (by omega), c2 1, if_neg (by omega), n1], by show g12.2.1 2 = _; rw [C12 2 (by omega), c12 2, if_neg (by omega), C11 2 (by omega), c11 2, if_neg (by omega), C10 2 (by omega), c10 2, if_neg (by omega), C9 2 (by omega), c9 2, if_neg (by omega), C8 2 (by omega), c8 2, if_neg (by omega), C7 2 (by omega), c7 2, if_neg (by omega), c6 2, if_neg (by omega), c5 2, if_neg (by omega), c4 2, if_neg (by omega), c3 2, if_neg (by omega), c2 2, if_neg (by omega), k2], by show g12.2.1 5 = _; rw [C12 5 (by omega), c12 5, if_neg (by omega), C11 5 (by omega), c11 5, if_neg (by omega), C10 5 (by omega), c10 5, if_neg (by omega), C9 5 (by omega), c9 5, if_neg (by omega), n5], by show g12.2.1 6 = _; rw [C12 6 (by omega), c12 6, if_neg (by omega), C11 6 (by omega), c11 6, if_neg (by omega), C10 6 (by omega), c10 6, if_neg (by omega), C9 6 (by omega), c9 6, if_neg (by omega), C8 6 (by omega), c8 6, if_neg (by omega), n6], by show g12.2.1 7 = _; rw [C12 7 (by omega), c12 7, if_neg (by omega), C11 7 (by omega), c11 7, if_neg (by omega), C10 7 (by omega), c10 7, if_neg (by omega), C9 7 (by omega), c9 7, if_neg (by omega), n7], by show g12.2.1 8 = _; rw [C12 8 (by omega), c12 8, if_neg (by omega), C11 8 (by omega), c11 8, if_neg (by omega), C10 8 (by omega), c10 8, if_neg (by omega), n8], by show g12.2.1 9 = _; rw [C12 9 (by omega), c12 9, if_neg (by omega), C11 9 (by omega), c11 9, if_neg (by omega), n9], by show g12.2.1 10 = _; rw [C12 10 (by omega), c12 10, if_neg (by omega), n10], by show g12.2.1 11 = _; rw [n11], by show g12.2.1 20 = _; rw [C12 20 (by omega), c12 20, if_neg (by omega), C11 20 (by omega), c11 20, if_neg (by omega), C10 20 (by omega), c10 20, if_neg (by omega), C9 20 (by omega), c9 20, if_neg (by omega), C8 20 (by omega), c8 20, if_neg (by omega), C7 20 (by omega), c7 20, if_neg (by omega), c6 20, if_neg (by omega), c5 20, if_neg (by omega), c4 20, if_neg (by omega), c3 20, if_neg (by omega), n20], by show g12.2.1 25 = _; rw [C12 25 (by omega), c12 25, if_neg (by omega), C11 25 (by omega), c11 25, if_neg (by omega), C10 25 (by omega), c10 25, if_neg (by omega), C9 25 (by omega), c9 25, if_neg (by omega), C8 25 (by omega), c8 25, if_neg (by omega), C7 25 (by omega), c7 25, if_neg (by omega), n25], by show g12.2.1 26 = _; rw [C12 26 (by omega), c12 26, if_neg (by omega), C11 26 (by omega), c11 26, if_neg (by omega), C10 26 (by omega), c10 26, if_neg (by omega), C9 26 (by omega), c9 26, if_neg (by omega), C8 26 (by omega), c8 26, if_neg (by omega), C7 26 (by omega), c7 26, if_neg (by omega), c6 26, if_neg (by omega), c5 26, if_neg (by omega), c4 26, if_neg (by omega), c3 26, if_neg (by omega), c2 26, if_neg (by omega), k26], by show g12.2.1 27 = _; rw [C12 27 (by omega), c12 27, if_neg (by omega), C11 27 (by omega), c11 27, if_neg (by omega), C10 27 (by omega), c10 27, if_neg (by omega), C9 27 (by omega), c9 27, if_neg (by omega), C8 27 (by omega), c8 27, if_neg (by omega), C7 27 (by omega), c7 27, if_neg (by omega), c6 27, if_neg (by omega), c5 27, if_neg (by omega), c4 27, if_neg (by omega), c3 27, if_neg (by omega), c2 27, if_neg (by omega), k27], by show g12.2.1 28 = _; rw [C12 28 (by omega), c12 28, if_neg (by omega), C11 28 (by omega), c11 28, if_neg (by omega), C10 28 (by omega), c10 28, if_neg (by omega), C9 28 (by omega), c9 28, if_neg (by omega), C8 28 (by omega), c8 28, if_neg (by omega), C7 28 (by omega), c7 28, if_neg (by omega), c6 28, if_neg (by omega), c5 28, if_neg (by omega), c4 28, if_neg (by omega), c3 28, if_neg (by omega), c2 28, if_neg (by omega), k28], by show g12.2.1 29 = _; rw [C12 29 (by omega), c12 29, if_neg (by omega), C11 29 (by omega), c11 29, if_neg (by omega), C10 29 (by omega), c10 29, if_neg (by omega), C9 29 (by omega), c9 29, if_neg (by omega), C8 29 (by omega), c8 29, if_neg (by omega), C7 29 (by omega), c7 29, if_neg (by omega), c6 29, if_neg (by omega), c5 29, if_neg (by omega), c4 29, if_neg (by omega), c3 29, if_neg (by omega), c2 29, if_neg (by omega), k29], by show g12.2.1 30 = _; rw [C12 30 (by omega), c12 30, if_neg (by omega), C11 30 (by omega), c11 30, if_neg (by omega), C10 30 (by omega), c10 30, if_neg (by omega), C9 30 (by omega), c9 30, if_neg (by omega), C8 30 (by omega), c8 30, if_neg (by omega), C7 30 (by omega), c7 30, if_neg (by omega), c6 30, if_neg (by omega), c5 30, if_neg (by omega), c4 30, if_neg (by omega), c3 30, if_neg (by omega), c2 30, if_neg (by omega), k30], by show g12.2.1 47 = _; rw [C12 47 (by omega), c12 47, if_neg (by omega)]; omega, fun t ht => D12 t (by omega)⟩
  refine hq gi12 _ (ST_trans T1 R1) HR HI HN ?_ ?_
  · show g12.2.2.2.1 ≤ _
    omega
  · show g12.2.2.2.2 ≤ _
    omega
