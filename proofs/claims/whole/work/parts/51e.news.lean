/-! constructors with rows of rows, and within others -/
theorem ST_sub {F : Nat → Nat → Nat → AR} {gi0 gi1 gi2 : GI} {g0 g1 g2 : AG} {c w c' w' : Nat} (h1 : ST F gi0 g0 c w gi1 g1) (h2 : ST F gi1 g1 c' w' gi2 g2) (hw : g0.2.1 c' ≤ w') : ST F gi0 g0 c w gi2 g2 := by
  refine ⟨fun s a j ha hs => ?_, h2.2.1, h2.2.2.1, fun s => Nat.le_trans (h1.2.2.2 s) (h2.2.2.2 s)⟩
  have a1 := h1.1 s a j ha hs
  have a2 := h2.1 s a j (Nat.lt_of_lt_of_le ha (h1.2.2.2 s)) (fun q => by
    obtain ⟨q1, q2⟩ := q
    subst q1
    omega)
  exact ⟨a2.1.trans a1.1, a2.2.trans a1.2⟩
/-- a field of a new cell -/
theorem ST_wRn {F : Nat → Nat → Nat → AR} {gi0 gi : GI} {g0 g : AG} {c w s a k : Nat} {v : AR} (h : ST F gi0 g0 c w gi g) (ha : g0.2.1 s ≤ a) (ha2 : a < g.2.1 s) (hc : s ≠ 27 ∧ s ≠ 20 := by decide) (hbg : ¬ BG s k := by unfold BG; omega) : ST F gi0 g0 c w gi (ax_wR g.1 s a k v, g.2) := by
  obtain ⟨h1, h2, h3, h4⟩ := h
  refine ⟨fun t b j hb hs => ⟨(h1 t b j hb hs).1, ?_⟩, ⟨fun t b j ht hb => ?_, fun b j => ?_⟩, h3, h4⟩
  · show ax_wR g.1 s a k v t b j = _
    rw [wR_at, if_neg (fun q => by
      obtain ⟨q1, q2, -⟩ := q
      subst q1
      omega)]
    exact (h1 t b j hb hs).2
  · show ax_wR g.1 s a k v t b j = _
    have hz : g.2.1 t ≤ b ∨ BG t j := hb
    clear hb
    rw [wR_at, if_neg (fun q => by
      obtain ⟨q1, q2, q3⟩ := q
      subst q1
      subst q3
      rcases hz with hz | hz
      · omega
      · exact hbg hz)]
    exact h2.1 t b j ht hz
  · show ax_wR g.1 s a k v 27 b j = _ ∧ ax_wR g.1 s a k v 20 b j = _
    rw [wR_at, if_neg (fun q => hc.1 q.1.symm), wR_at, if_neg (fun q => hc.2 q.1.symm)]
    exact h2.2 b j
theorem ST_mnew {F : Nat → Nat → Nat → AR} {gi0 gi : GI} {g0 g : AG} {c w s t n k : Nat} (h : ST F gi0 g0 c w gi g) (hst : s ≠ t) (hs27 : s ≠ 27 ∧ s ≠ 20) (hbs : ∀ j, BG s j → n ≤ j) (hbt : ∀ j, ¬ BG t j) : ST F gi0 g0 c w (ax_mnew (gi, g) s t n k).1 (ax_mnew (gi, g) s t n k).2 := by
  obtain ⟨h1, h2, h3, h4⟩ := h
  have cnt : ∀ u, (ax_mnew (gi, g) s t n k).2.2.1 u = if u = t then g.2.1 t + n else if u = s then g.2.1 s + 1 else g.2.1 u := fun u => rfl
  refine ⟨fun u a j ha hu => ⟨?_, ?_⟩, ⟨fun u a j hu ha => ?_, fun a j => ?_⟩, fun u a j hu hd => ?_, fun u => ?_⟩
  · have := h4 u
    show (if u = t ∧ g.2.1 t ≤ a ∧ a < g.2.1 t + n ∧ j < k then 0 else gi u a j) = _
    rw [if_neg (fun q => by
      obtain ⟨q1, q2, -⟩ := q
      subst q1
      omega)]
    exact (h1 u a j ha hu).1
  · have := h4 u
    show (if u = s ∧ a = g.2.1 s ∧ j < n then some (t, g.2.1 t + j) else if u = t ∧ g.2.1 t ≤ a ∧ a < g.2.1 t + n ∧ j < k then none else g.1 u a j) = _
    rw [if_neg (fun q => by
      obtain ⟨q1, q2, -⟩ := q
      subst q1
      omega), if_neg (fun q => by
      obtain ⟨q1, q2, -⟩ := q
      subst q1
      omega)]
    exact (h1 u a j ha hu).2
  · rw [cnt] at ha
    show (if u = s ∧ a = g.2.1 s ∧ j < n then some (t, g.2.1 t + j) else if u = t ∧ g.2.1 t ≤ a ∧ a < g.2.1 t + n ∧ j < k then none else g.1 u a j) = _
    by_cases q1 : u = t
    · subst q1
      rw [if_pos rfl] at ha
      have ha : g.2.1 u + n ≤ a := ha.resolve_right (hbt j)
      rw [if_neg (fun q => hst q.1.symm), if_neg (by omega)]
      exact h2.1 u a j hu (Or.inl (by omega))
    · rw [if_neg q1] at ha
      by_cases q2 : u = s
      · subst q2
        rw [if_pos rfl] at ha
        rw [if_neg (fun z => by
          rcases ha with ha | ha
          · omega
          · have := hbs j ha
            omega), if_neg (fun q => q1 q.1)]
        exact h2.1 u a j hu (ha.imp (fun _ => by omega) id)
      · rw [if_neg q2] at ha
        rw [if_neg (fun q => q2 q.1), if_neg (fun q => q1 q.1)]
        exact h2.1 u a j hu ha
  · have e : ∀ v, s ≠ v → g.1 v a j = none → (if v = s ∧ a = g.2.1 s ∧ j < n then some (t, g.2.1 t + j) else if v = t ∧ g.2.1 t ≤ a ∧ a < g.2.1 t + n ∧ j < k then none else g.1 v a j) = none := fun v hv ht => by
      rw [if_neg (fun q => hv q.1.symm)]
      split
      · rfl
      · exact ht
    exact ⟨e 27 hs27.1 (h2.2 a j).1, e 20 hs27.2 (h2.2 a j).2⟩
  · show (if u = t ∧ g.2.1 t ≤ a ∧ a < g.2.1 t + n ∧ j < k then 0 else gi u a j) = _
    split
    · rfl
    · exact h3 u a j hu hd
  · rw [cnt]
    have := h4 u
    by_cases q1 : u = t
    · subst q1
      rw [if_pos rfl]
      omega
    · rw [if_neg q1]
      by_cases q2 : u = s
      · subst q2
        rw [if_pos rfl]
        omega
      · rw [if_neg q2]
        exact this
/-- rows of rows, then go on -/
theorem K_mn {F : Nat → Nat → Nat → AR} {gi0 gi : GI} {g0 g : AG} {c w s t n k : Nat} {K : AH → Prop} (h : ST F gi0 g0 c w gi g) (hw : w < g0.2.1 c) (hst : s ≠ t) (hs27 : s ≠ 27 ∧ s ≠ 20)
    (hq : ∀ (gi' : GI) (g' : AG), ST F gi0 g0 c w gi' g' → (∀ u, u ≠ s → u ≠ t → g'.2.1 u = g.2.1 u) → g'.2.1 s = g.2.1 s + 1 → g'.2.1 t = g.2.1 t + n → (∀ j, j < n → g'.1 s (g.2.1 s) j = some (t, g.2.1 t + j)) → (∀ u a j, a < g.2.1 u → gi' u a j = gi u a j ∧ g'.1 u a j = g.1 u a j) → g'.2.2.2.1 = g.2.2.2.1 + 1 + n → g'.2.2.2.2 = g.2.2.2.2 + n + n * k → K (gi', g')) (hbs : ∀ j, BG s j → n ≤ j := by intro j h; unfold BG at h; omega) (hbt : ∀ j, ¬ BG t j := by intro j h; unfold BG at h; omega) : K (ax_mnew (gi, g) s t n k) := by
  refine hq _ _ (ST_mnew (s := s) (t := t) (n := n) (k := k) h hst hs27 hbs hbt) (fun u q1 q2 => ?_) ?_ ?_ (fun j hj => ?_) (fun u a j ha => ⟨?_, ?_⟩) rfl rfl
  · show (if u = t then g.2.1 t + n else if u = s then g.2.1 s + 1 else g.2.1 u) = _
    rw [if_neg q2, if_neg q1]
  · show (if s = t then g.2.1 t + n else if s = s then g.2.1 s + 1 else g.2.1 s) = _
    rw [if_neg hst, if_pos rfl]
  · show (if t = t then g.2.1 t + n else if t = s then g.2.1 s + 1 else g.2.1 t) = _
    rw [if_pos rfl]
  · show (if s = s ∧ g.2.1 s = g.2.1 s ∧ j < n then some (t, g.2.1 t + j) else _) = _
    rw [if_pos ⟨rfl, rfl, hj⟩]
  · show (if u = t ∧ g.2.1 t ≤ a ∧ a < g.2.1 t + n ∧ j < k then 0 else gi u a j) = _
    rw [if_neg (fun q => by
      obtain ⟨q1, q2, -⟩ := q
      subst q1
      omega)]
  · show (if u = s ∧ a = g.2.1 s ∧ j < n then some (t, g.2.1 t + j) else if u = t ∧ g.2.1 t ≤ a ∧ a < g.2.1 t + n ∧ j < k then none else g.1 u a j) = _
    rw [if_neg (fun q => by
      obtain ⟨q1, q2, -⟩ := q
      subst q1
      omega), if_neg (fun q => by
      obtain ⟨q1, q2, -⟩ := q
      subst q1
      omega)]
/-- a paper -/
theorem n_Paper {d w : Nat} {F : Nat → Nat → Nat → AR} {gi : GI} {g : AG} {Q : Option AV → AH → Prop} (hU : RU F g) (hZ : ZS gi) (hw : w < g.2.1 3)
    (hq : ∀ (gi' : GI) (g' : AG), ST F gi g 3 w gi' g' → (∀ t, ¬ (54 ≤ t ∧ t ≤ 59) → g'.2.1 t = g.2.1 t) → (∀ t, 54 ≤ t → t ≤ 58 → g'.2.1 t = g.2.1 t + 1) → g'.2.1 59 = g.2.1 59 + 8 → g'.1 3 w 5 = some (54, g.2.1 54) → g'.1 3 w 6 = some (55, g.2.1 55) → g'.1 3 w 7 = some (56, g.2.1 56) → g'.1 3 w 8 = some (57, g.2.1 57) → g'.1 3 w 9 = some (58, g.2.1 58) → (∀ j, j < 8 → g'.1 58 (g.2.1 58) j = some (59, g.2.1 59 + j)) → g'.2.2.2.1 = g.2.2.2.1 + 13 → g'.2.2.2.2 = g.2.2.2.2 + 610 → Q none (gi', g')) :
    ax_call (d + 1) m_Paper_init [.inr (.inr (some (3, w)))] (gi, g) Q := by
  have s0 : ST F gi g 3 w gi g := ST_refl hU hZ
  have s1 := ST_wI (ST_wI (ST_wI (ST_wI (ST_wI (k := 0) (v := n32 0) s0 (Or.inl rfl)) (k := 1) (v := n32 0) (Or.inl rfl)) (k := 2) (v := n32 0) (Or.inl rfl)) (k := 3) (v := n32 0) (Or.inl rfl)) (k := 4) (v := n32 0) (Or.inl rfl)
  rw [e_Paper_init, b_Paper_init_0]
  refine ⟨nn 64 (by omega), ?_⟩
  refine K_new (K := fun h => Runs _ _ h _) s1 hw (fun gi2 g2 s2 c2 i2 r2 o2 a2 l2 => ?_)
  rw [b_Paper_init_34]
  refine ⟨nn 6 (by omega), ?_⟩
  refine K_pn (K := fun h => Runs _ _ h _) s2 hw (fun gi3 g3 s3 c3 i3 r3 p3 o3 a3 l3 => ?_)
  rw [b_Paper_init_42]
  refine ⟨nn 10 (by omega), ?_⟩
  refine K_pn (K := fun h => Runs _ _ h _) s3 hw (fun gi4 g4 s4 c4 i4 r4 p4 o4 a4 l4 => ?_)
  rw [b_Paper_init_50]
  refine ⟨nn 10 (by omega), ?_⟩
  refine K_pn (K := fun h => Runs _ _ h _) s4 hw (fun gi5 g5 s5 c5 i5 r5 p5 o5 a5 l5 => ?_)
  rw [b_Paper_init_58]
  refine ⟨⟨nn 8 (by omega), nn 64 (by omega)⟩, ?_⟩
  have hw5 : w < g5.2.1 3 := Nat.lt_of_lt_of_le hw (s5.2.2.2 3)
  refine K_mn (K := fun h => Runs _ _ h _) (ST_wR s5 hw (k := 8) (v := some (57, g4.2.1 57))) hw (by decide) (by decide) (fun gi6 g6 s6 c6 cs6 ct6 w6 o6 a6 l6 => ?_)
  have w6 : ∀ j, j < 8 → g6.1 58 (g5.2.1 58) j = some (59, g5.2.1 59 + j) := w6
  have e6 : ∀ j, g6.1 3 w j = ax_wR g5.1 3 w 8 (some (57, g4.2.1 57)) 3 w j := fun j => (o6 3 w j hw5).2
  have cc : ∀ t, ¬ (54 ≤ t ∧ t ≤ 57) → g5.2.1 t = g.2.1 t := fun t ht => by rw [c5 t, if_neg (by omega), c4 t, if_neg (by omega), c3 t, if_neg (by omega), c2 t, if_neg (by omega)]
  rw [b_Paper_init_70]
  refine hq gi6 _ (ST_wR s6 hw) (fun t ht => ?_) (fun t t1 t2 => ?_) ?_ ?_ ?_ ?_ ?_ ?_ (fun j hj => ?_) ?_ ?_
  · show g6.2.1 t = _
    rw [c6 t (by omega) (by omega)]
    exact cc t (by omega)
  · show g6.2.1 t = _
    by_cases q8 : t = 58
    · rw [q8, cs6]
      exact congrArg (· + 1) (cc 58 (by omega))
    · rw [c6 t q8 (by omega)]
      show g5.2.1 t = _
      have e5 := c5 t
      have e4 := c4 t
      have e3 := c3 t
      have e2 := c2 t
      have cs : t = 54 ∨ t = 55 ∨ t = 56 ∨ t = 57 := by omega
      rcases cs with q | q | q | q
      · rw [if_neg (by omega)] at e5 e4 e3
        rw [if_pos q] at e2
        omega
      · rw [if_neg (by omega)] at e5 e4 e2
        rw [if_pos q] at e3
        omega
      · rw [if_neg (by omega)] at e5 e3 e2
        rw [if_pos q] at e4
        omega
      · rw [if_neg (by omega)] at e4 e3 e2
        rw [if_pos q] at e5
        omega
  · show g6.2.1 59 = _
    rw [ct6]
    exact congrArg (· + 8) (cc 59 (by omega))
  · show ax_wR g6.1 3 w 9 (some (58, g5.2.1 58)) 3 w 5 = _
    rw [wR_at, if_neg (by omega), e6, wR_at, if_neg (by omega), r5 5 (by decide), r4 5 (by decide), p3]
  · show ax_wR g6.1 3 w 9 (some (58, g5.2.1 58)) 3 w 6 = _
    rw [wR_at, if_neg (by omega), e6, wR_at, if_neg (by omega), r5 6 (by decide), p4, c2 55, if_neg (by decide)]
  · show ax_wR g6.1 3 w 9 (some (58, g5.2.1 58)) 3 w 7 = _
    rw [wR_at, if_neg (by omega), e6, wR_at, if_neg (by omega), p5, c3 56, if_neg (by decide), c2 56, if_neg (by decide)]
  · show ax_wR g6.1 3 w 9 (some (58, g5.2.1 58)) 3 w 8 = _
    rw [wR_at, if_neg (by omega), e6, wR_at, if_pos ⟨rfl, rfl, rfl⟩, c4 57, if_neg (by decide), c3 57, if_neg (by decide), c2 57, if_neg (by decide)]
  · show ax_wR g6.1 3 w 9 (some (58, g5.2.1 58)) 3 w 9 = _
    rw [wR_at, if_pos ⟨rfl, rfl, rfl⟩, cc 58 (by omega)]
  · show ax_wR g6.1 3 w 9 (some (58, g5.2.1 58)) 58 (g.2.1 58) j = _
    rw [wR_at, if_neg (by omega), ← cc 58 (by omega), w6 j hj, cc 59 (by omega)]
  · show g6.2.2.2.1 = _
    have z : g6.2.2.2.1 = g5.2.2.2.1 + 1 + 8 := a6
    omega
  · show g6.2.2.2.2 = _
    have z : g6.2.2.2.2 = g5.2.2.2.2 + 8 + 8 * 64 := l6
    omega
