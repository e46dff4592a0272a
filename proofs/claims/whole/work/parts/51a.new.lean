/-! what the constructors leave: frames, cells not made yet, ints that stay 0 -/
/-- where a constructor writes an int other than 0 -/
def DZ (s j : Nat) : Prop := s = 2 ∨ (s = 1 ∧ j = 4) ∨ s = 28 ∨ (s = 6 ∧ j = 6) ∨ s = 8 ∨ s = 9 ∨ (s = 10 ∧ j = 0) ∨ (s = 0 ∧ j = 5) ∨ s = 67 ∨ (s = 12 ∧ (j = 11 ∨ j = 34)) ∨ (s = 64 ∧ (j = 794 ∨ j = 795 ∨ j = 798))
def ZS (gi : GI) : Prop := ∀ s a j, s < 100 → ¬ DZ s j → gi s a j = 0
/-- past the end of a row of references -/
def BG (s j : Nat) : Prop := (s = 20 ∧ 2 ≤ j) ∨ (s = 25 ∧ 6 ≤ j) ∨ (s = 26 ∧ 6 ≤ j) ∨ (s = 47 ∧ 6 ≤ j) ∨ (s = 58 ∧ 8 ≤ j)
def RU (F : Nat → Nat → Nat → AR) (g : AG) : Prop := (∀ s a j, s < 100 → (g.2.1 s ≤ a ∨ BG s j) → g.1 s a j = F s a j) ∧ ∀ a j, g.1 27 a j = none ∧ g.1 20 a j = none
/-- since (gi0, g0), all but the cell (c, w) and what is new is as it was -/
def ST (F : Nat → Nat → Nat → AR) (gi0 : GI) (g0 : AG) (c w : Nat) (gi : GI) (g : AG) : Prop := (∀ s a j, a < g0.2.1 s → ¬ (s = c ∧ a = w) → gi s a j = gi0 s a j ∧ g.1 s a j = g0.1 s a j) ∧ RU F g ∧ ZS gi ∧ ∀ s, g0.2.1 s ≤ g.2.1 s
theorem ST_refl {F : Nat → Nat → Nat → AR} {gi : GI} {g : AG} {c w : Nat} (hU : RU F g) (hZ : ZS gi) : ST F gi g c w gi g := ⟨fun _ _ _ _ _ => ⟨rfl, rfl⟩, hU, hZ, fun _ => Nat.le_refl _⟩
theorem wN_at (f : Nat → Nat) (s n t : Nat) : ax_wN f s n t = if t = s then n else f t := rfl
theorem zI_at (f : GI) (s a n s' a' j' : Nat) : ax_zI f s a n s' a' j' = if s' = s ∧ a' = a ∧ j' < n then 0 else f s' a' j' := rfl
theorem zR_at (f : Nat → Nat → Nat → AR) (s a n s' a' j' : Nat) : ax_zR f s a n s' a' j' = if s' = s ∧ a' = a ∧ j' < n then none else f s' a' j' := rfl
theorem ST_wR {F : Nat → Nat → Nat → AR} {gi0 gi : GI} {g0 g : AG} {c w k : Nat} {v : AR} (h : ST F gi0 g0 c w gi g) (hw : w < g0.2.1 c) (hc : c ≠ 27 ∧ c ≠ 20 := by decide) (hb : ¬ BG c k := by unfold BG; omega) : ST F gi0 g0 c w gi (ax_wR g.1 c w k v, g.2) := by
  obtain ⟨h1, h2, h3, h4⟩ := h
  refine ⟨fun s a j ha hs => ⟨(h1 s a j ha hs).1, ?_⟩, ⟨fun s a j hs ha => ?_, fun a j => ?_⟩, h3, h4⟩
  · show ax_wR g.1 c w k v s a j = _
    rw [wR_at, if_neg (fun q => hs ⟨q.1, q.2.1⟩)]
    exact (h1 s a j ha hs).2
  · show ax_wR g.1 c w k v s a j = _
    have hz : g.2.1 s ≤ a ∨ BG s j := ha
    clear ha
    rw [wR_at, if_neg (fun q => by
      obtain ⟨q1, q2, q3⟩ := q
      subst q1
      subst q2
      subst q3
      rcases hz with hz | hz
      · have := h4 s
        omega
      · exact hb hz)]
    exact h2.1 s a j hs hz
  · show ax_wR g.1 c w k v 27 a j = _ ∧ ax_wR g.1 c w k v 20 a j = _
    rw [wR_at, if_neg (fun q => hc.1 q.1.symm), wR_at, if_neg (fun q => hc.2 q.1.symm)]
    exact h2.2 a j
theorem ST_wI {F : Nat → Nat → Nat → AR} {gi0 gi : GI} {g0 g : AG} {c w k : Nat} {v : Int32} (h : ST F gi0 g0 c w gi g) (hv : v = 0 ∨ DZ c k) : ST F gi0 g0 c w (ax_wI gi c w k v) g := by
  obtain ⟨h1, h2, h3, h4⟩ := h
  refine ⟨fun s a j ha hs => ⟨?_, (h1 s a j ha hs).2⟩, h2, fun s a j hs hd => ?_, h4⟩
  · rw [wI_at, if_neg (fun q => hs ⟨q.1, q.2.1⟩)]
    exact (h1 s a j ha hs).1
  · rw [wI_at]
    by_cases q : s = c ∧ a = w ∧ j = k
    · rw [if_pos q]
      rcases hv with hv | hv
      · exact hv
      · rw [q.1, q.2.2] at hd
        exact absurd hv hd
    · rw [if_neg q]
      exact h3 s a j hs hd
theorem ST_new {F : Nat → Nat → Nat → AR} {gi0 gi : GI} {g0 g : AG} {c w s n : Nat} (h : ST F gi0 g0 c w gi g) (hb : ∀ j, BG s j → n ≤ j) : ST F gi0 g0 c w (ax_new (gi, g) s n).1 (ax_new (gi, g) s n).2 := by
  obtain ⟨h1, h2, h3, h4⟩ := h
  refine ⟨fun t a j ha hs => ⟨?_, ?_⟩, ⟨fun t a j ht ha => ?_, fun a j => ?_⟩, fun t a j ht hd => ?_, fun t => ?_⟩
  · show ax_zI gi s (g.2.1 s) n t a j = _
    rw [zI_at, if_neg (fun q => by
      have := h4 t
      obtain ⟨q1, q2, -⟩ := q
      subst q1
      omega)]
    exact (h1 t a j ha hs).1
  · show ax_zR g.1 s (g.2.1 s) n t a j = _
    rw [zR_at, if_neg (fun q => by
      have := h4 t
      obtain ⟨q1, q2, -⟩ := q
      subst q1
      omega)]
    exact (h1 t a j ha hs).2
  · show ax_zR g.1 s (g.2.1 s) n t a j = _
    have ha : ax_wN g.2.1 s (g.2.1 s + 1) t ≤ a ∨ BG t j := ha
    rw [wN_at] at ha
    by_cases q : t = s
    · subst q
      rw [if_pos rfl] at ha
      rw [zR_at, if_neg (fun z => by
        rcases ha with ha | ha
        · omega
        · have := hb j ha
          omega)]
      exact h2.1 t a j ht (ha.imp (fun _ => by omega) id)
    · rw [if_neg q] at ha
      rw [zR_at, if_neg (fun z => q z.1)]
      exact h2.1 t a j ht ha
  · have e : ∀ t, g.1 t a j = none → ax_zR g.1 s (g.2.1 s) n t a j = none := fun t ht => by
      rw [zR_at]
      split
      · rfl
      · exact ht
    exact ⟨e 27 (h2.2 a j).1, e 20 (h2.2 a j).2⟩
  · show ax_zI gi s (g.2.1 s) n t a j = _
    rw [zI_at]
    by_cases q : t = s ∧ a = g.2.1 s ∧ j < n
    · rw [if_pos q]
    · rw [if_neg q]
      exact h3 t a j ht hd
  · show _ ≤ ax_wN g.2.1 s (g.2.1 s + 1) t
    rw [wN_at]
    have := h4 t
    by_cases q : t = s
    · subst q
      rw [if_pos rfl]
      omega
    · rw [if_neg q]
      exact this
theorem nn (k : Nat) (h : k < 2147483648) : ¬ n32 k < n32 0 ∧ (n32 k).toNatClampNeg = k := ⟨by rw [n32_neg h]; exact id, n32_clamp h⟩
/-- a new cell, then go on -/
theorem K_new {F : Nat → Nat → Nat → AR} {gi0 gi : GI} {g0 g : AG} {c w s n : Nat} {K : AH → Prop} (h : ST F gi0 g0 c w gi g) (hw : w < g0.2.1 c)
    (hq : ∀ (gi' : GI) (g' : AG), ST F gi0 g0 c w gi' g' → (∀ t, g'.2.1 t = if t = s then g.2.1 t + 1 else g.2.1 t) → (∀ j, gi' c w j = gi c w j) → (∀ j, g'.1 c w j = g.1 c w j) → (∀ t a j, a < g.2.1 t → gi' t a j = gi t a j ∧ g'.1 t a j = g.1 t a j) → g'.2.2.2.1 = g.2.2.2.1 + 1 → g'.2.2.2.2 = g.2.2.2.2 + n → K (gi', g')) (hb : ∀ j, BG s j → n ≤ j := by intro j h; unfold BG at h; omega) : K (ax_new (gi, g) s n) := by
  have h4 := h.2.2.2 c
  have old : ∀ t a j, a < g.2.1 t → ax_zI gi s (g.2.1 s) n t a j = gi t a j ∧ ax_zR g.1 s (g.2.1 s) n t a j = g.1 t a j := fun t a j ha => by
    have hne : ¬ (t = s ∧ a = g.2.1 s ∧ j < n) := fun q => by
      obtain ⟨q1, q2, -⟩ := q
      subst q1
      omega
    rw [zI_at, if_neg hne, zR_at, if_neg hne]
    exact ⟨rfl, rfl⟩
  refine hq _ _ (ST_new (s := s) (n := n) h hb) (fun t => ?_) (fun j => ?_) (fun j => ?_) old rfl rfl
  · show ax_wN g.2.1 s (g.2.1 s + 1) t = _
    rw [wN_at]
    by_cases q : t = s
    · subst q
      rfl
    · rw [if_neg q, if_neg q]
  · show ax_zI gi s (g.2.1 s) n c w j = _
    rw [zI_at, if_neg (fun q => by
      obtain ⟨q1, q2, -⟩ := q
      subst q1
      omega)]
  · show ax_zR g.1 s (g.2.1 s) n c w j = _
    rw [zR_at, if_neg (fun q => by
      obtain ⟨q1, q2, -⟩ := q
      subst q1
      omega)]
/-- a new row of longs, then go on -/
theorem K_newl {F : Nat → Nat → Nat → AR} {gi0 gi : GI} {g0 g : AG} {c w s n : Nat} {K : AH → Prop} (h : ST F gi0 g0 c w gi g) (hw : w < g0.2.1 c)
    (hq : ∀ (gi' : GI) (g' : AG), ST F gi0 g0 c w gi' g' → (∀ t, g'.2.1 t = if t = s then g.2.1 t + 1 else g.2.1 t) → (∀ j, gi' c w j = gi c w j) → (∀ j, g'.1 c w j = g.1 c w j) → (∀ t a j, a < g.2.1 t → gi' t a j = gi t a j ∧ g'.1 t a j = g.1 t a j) → g'.2.2.2.1 = g.2.2.2.1 + 1 → g'.2.2.2.2 = g.2.2.2.2 + n → K (gi', g')) (hb : ∀ j, BG s j → n ≤ j := by intro j h; unfold BG at h; omega) : K (ax_newl (gi, g) s n) := by
  have old : ∀ t a j, a < g.2.1 t → ax_zI gi s (g.2.1 s) (n + n) t a j = gi t a j := fun t a j ha => by
    rw [zI_at, if_neg (fun q => by
      obtain ⟨q1, q2, -⟩ := q
      subst q1
      omega)]
  have e : ax_newl (gi, g) s n = ax_new (ax_zI gi s (g.2.1 s) (n + n), g) s n := by
    refine Prod.ext ?_ rfl
    funext t a j
    show ax_zI gi s (g.2.1 s) (n + n) t a j = ax_zI (ax_zI gi s (g.2.1 s) (n + n)) s (g.2.1 s) n t a j
    rw [zI_at (ax_zI gi s (g.2.1 s) (n + n))]
    by_cases q : t = s ∧ a = g.2.1 s ∧ j < n
    · rw [if_pos q, zI_at, if_pos ⟨q.1, q.2.1, by omega⟩]
    · rw [if_neg q]
  obtain ⟨h1, h2, h3, h4⟩ := h
  have h' : ST F gi0 g0 c w (ax_zI gi s (g.2.1 s) (n + n)) g := ⟨fun t a j ha hs => ⟨(old t a j (Nat.lt_of_lt_of_le ha (h4 t))).trans (h1 t a j ha hs).1, (h1 t a j ha hs).2⟩, h2, fun t a j ht hd => by
    rw [zI_at]
    split
    · rfl
    · exact h3 t a j ht hd, h4⟩
  rw [e]
  exact K_new h' hw (fun gi' g' k1 k2 k3 k4 k5 k6 k7 => hq gi' g' k1 k2 (fun j => (k3 j).trans (old c w j (Nat.lt_of_lt_of_le hw (h4 c)))) k4 (fun t a j ha => ⟨(k5 t a j ha).1.trans (old t a j ha), (k5 t a j ha).2⟩) k6 k7) hb
/-- a field, a new cell, then go on -/
theorem K_pn {F : Nat → Nat → Nat → AR} {gi0 gi : GI} {g0 g : AG} {c w k s n : Nat} {v : AR} {K : AH → Prop} (h : ST F gi0 g0 c w gi g) (hw : w < g0.2.1 c)
    (hq : ∀ (gi' : GI) (g' : AG), ST F gi0 g0 c w gi' g' → (∀ t, g'.2.1 t = if t = s then g.2.1 t + 1 else g.2.1 t) → (∀ j, gi' c w j = gi c w j) → (∀ j, j ≠ k → g'.1 c w j = g.1 c w j) → g'.1 c w k = v → (∀ t a j, a < g.2.1 t → gi' t a j = gi t a j ∧ (¬ (t = c ∧ a = w ∧ j = k) → g'.1 t a j = g.1 t a j)) → g'.2.2.2.1 = g.2.2.2.1 + 1 → g'.2.2.2.2 = g.2.2.2.2 + n → K (gi', g')) (hc : c ≠ 27 ∧ c ≠ 20 := by decide) (hk : ¬ BG c k := by unfold BG; omega) (hb : ∀ j, BG s j → n ≤ j := by intro j h; unfold BG at h; omega) : K (ax_new (gi, ax_wR g.1 c w k v, g.2) s n) := by
  refine K_new (g := (ax_wR g.1 c w k v, g.2)) (ST_wR (k := k) (v := v) h hw hc hk) hw (fun gi' g' h1 h2 h3 h4 ho h5 h6 => hq gi' g' h1 h2 h3 (fun j hj => ?_) ?_ (fun t a j ha => ⟨(ho t a j ha).1, fun hne => ?_⟩) h5 h6) hb
  · rw [h4]
    show ax_wR g.1 c w k v c w j = _
    rw [wR_at, if_neg (fun q => hj q.2.2)]
  · rw [h4]
    show ax_wR g.1 c w k v c w k = _
    rw [wR_at, if_pos ⟨rfl, rfl, rfl⟩]
  · rw [(ho t a j ha).2]
    show ax_wR g.1 c w k v t a j = _
    rw [wR_at, if_neg hne]
/-- a thing -/
theorem n_Thing {d w : Nat} {F : Nat → Nat → Nat → AR} {gi : GI} {g : AG} {Q : Option AV → AH → Prop} (hU : RU F g) (hZ : ZS gi) (hw : w < g.2.1 2)
    (hq : ∀ (gi' : GI) (g' : AG), ST F gi g 2 w gi' g' → (∀ t, g'.2.1 t = if t = 29 ∨ t = 30 then g.2.1 t + 1 else g.2.1 t) → g'.1 2 w 4 = some (29, g.2.1 29) → g'.1 2 w 5 = some (30, g.2.1 30) → g'.2.2.2.1 = g.2.2.2.1 + 2 → g'.2.2.2.2 = g.2.2.2.2 + 128 → Q none (gi', g')) :
    ax_call (d + 1) m_Thing_init [.inr (.inr (some (2, w)))] (gi, g) Q := by
  have h0 : ST F gi g 2 w gi g := ST_refl hU hZ
  have h1 := ST_wI (ST_wI (ST_wI (ST_wI (k := 0) (v := n32 1) h0 (Or.inr (Or.inl rfl))) (k := 1) (v := n32 1) (Or.inr (Or.inl rfl))) (k := 2) (v := n32 0) (Or.inl rfl)) (k := 3) (v := -1) (Or.inr (Or.inl rfl))
  rw [e_Thing_init, b_Thing_init_0]
  refine ⟨nn 64 (by omega), ?_⟩
  refine K_new (K := fun h => Runs _ _ h _) h1 hw (fun gi2 g2 s2 c2 i2 r2 o2 a2 l2 => ?_)
  rw [b_Thing_init_29]
  refine ⟨nn 64 (by omega), ?_⟩
  refine K_pn (K := fun h => Runs _ _ h _) s2 hw (fun gi3 g3 s3 c3 i3 r3 p3 o3 a3 l3 => ?_)
  rw [b_Thing_init_37]
  refine hq gi3 _ (ST_wR s3 hw) (fun t => ?_) ?_ ?_ ?_ ?_
  · show g3.2.1 t = _
    have e3 := c3 t
    have e2 := c2 t
    by_cases q1 : t = 30
    · rw [if_pos q1] at e3
      rw [if_neg (by omega)] at e2
      rw [if_pos (Or.inr q1)]
      omega
    · rw [if_neg q1] at e3
      by_cases q2 : t = 29
      · rw [if_pos q2] at e2
        rw [if_pos (Or.inl q2)]
        omega
      · rw [if_neg q2] at e2
        rw [if_neg (by omega)]
        omega
  · show ax_wR g3.1 2 w 5 _ 2 w 4 = _
    rw [wR_at, if_neg (by omega), p3]
  · show ax_wR g3.1 2 w 5 (some (30, g2.2.1 30)) 2 w 5 = _
    rw [wR_at, if_pos ⟨rfl, rfl, rfl⟩, c2 30, if_neg (by decide)]
  · show g3.2.2.2.1 = _
    omega
  · show g3.2.2.2.2 = _
    omega
