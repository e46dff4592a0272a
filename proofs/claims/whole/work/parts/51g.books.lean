/-- books, i things of theirs made -/
def BL (F : Nat → Nat → Nat → AR) (gi : GI) (g : AG) (r i : Nat) (gi1 : GI) (g1 : AG) : Prop := ST F gi g 1 r gi1 g1 ∧ (∀ t, ¬ (t = 2 ∨ (26 ≤ t ∧ t ≤ 30)) → g1.2.1 t = g.2.1 t) ∧ (g1.2.1 26 = r + 1 ∧ g1.2.1 27 = r + 1 ∧ g1.2.1 28 = r + 1) ∧ (g1.2.1 2 = g.2.1 2 + i ∧ g1.2.1 29 = g.2.1 29 + i ∧ g1.2.1 30 = g.2.1 30 + i) ∧ (g1.1 1 r 0 = some (26, r) ∧ g1.1 1 r 2 = some (27, r) ∧ g1.1 1 r 5 = some (28, r)) ∧ (∀ k, k < i → g1.1 26 r k = some (2, g.2.1 2 + k)) ∧ (∀ k, k < i → g1.1 2 (g.2.1 2 + k) 4 = some (29, g.2.1 29 + k) ∧ g1.1 2 (g.2.1 2 + k) 5 = some (30, g.2.1 30 + k)) ∧ gi1 1 r 4 = -1 ∧ g1.2.2.2.1 = g.2.2.2.1 + 3 + 3 * i ∧ g1.2.2.2.2 = g.2.2.2.2 + 16 + 134 * i
theorem ST_cIn {F : Nat → Nat → Nat → AR} {gi0 gi : GI} {g0 g : AG} {c w s a sp t b n : Nat} (h : ST F gi0 g0 c w gi g) (hb : g0.2.1 t ≤ b) (hd : ∀ j, DZ t j) : ST F gi0 g0 c w (ax_cI gi s a sp t b 0 n) g := by
  obtain ⟨h1, h2, h3, h4⟩ := h
  refine ⟨fun u e j he hs => ⟨?_, (h1 u e j he hs).2⟩, h2, fun u e j hu hdz => ?_, h4⟩
  · rw [cI_at, if_neg (fun q => by
      obtain ⟨q1, q2, -⟩ := q
      subst q1
      omega)]
    exact (h1 u e j he hs).1
  · rw [cI_at, if_neg (fun q => hdz (by rw [q.1]; exact hd j))]
    exact h3 u e j hu hdz
theorem n_Books {d r : Nat} {F : Nat → Nat → Nat → AR} {gi : GI} {g : AG} {Q : Option AV → AH → Prop} (hU : RU F g) (hZ : ZS gi) (hr : r < g.2.1 1) (c26 : g.2.1 26 = r) (c27 : g.2.1 27 = r) (c28 : g.2.1 28 = r) (h100 : 0 < g.2.1 100) (hr3 : r < 1000)
    (hq : ∀ (gi' : GI) (g' : AG), BL F gi g r 6 gi' g' → (∀ k, k < 4 → gi' 28 r k = gi 100 0 k) → Q none (gi', g')) :
    ax_call (d + 2) m_Books_init [.inr (.inr (some (1, r)))] (gi, g) Q := by
  have s0 : ST F gi g 1 r gi g := ST_refl hU hZ
  have c0 : (n32 0).toNatClampNeg = 0 := by decide
  have c4 : (n32 4).toNatClampNeg = 4 := by decide
  have lp := loop_up (n := 6) (P := fun i => ∀ (gi1 : GI) (g1 : AG), BL F gi g r i gi1 g1 → Runs (d + 1) (m_Books_init, 46, [some (.inr (.inr (some (1, r)))), some (.inl (n32 i))], []) (gi1, g1) Q) (by
    intro i hi ih gi1 g1 hb
    obtain ⟨s1, k1, ⟨k26, k27, k28⟩, ⟨k2, k29, k30⟩, ⟨p0, p2, p5⟩, hrow, hth, hm, ha, hl⟩ := hb
    have hr1 : r < g1.2.1 1 := Nat.lt_of_lt_of_le hr (s1.2.2.2 1)
    rw [b_Books_init_46]
    refine ⟨fun _ => ?_, fun z => absurd (by rw [n32_lt (by omega) (by omega)]; exact hi) z⟩
    rw [b_Books_init_52]
    refine ⟨p0, ?_⟩
    refine K_new (K := fun h => Runs _ _ h _) s1 hr (fun gi2 g2 s2 c2 i2 r2 o2 a2 l2 => ?_)
    rw [b_Books_init_60]
    refine n_Thing (F := F) s2.2.1 s2.2.2.1 (show g1.2.1 2 < g2.2.1 2 by rw [c2 2, if_pos rfl]; exact Nat.lt_succ_self _) (fun gi3 g3 s3' c3 q4 q5 a3 l3 => ?_)
    rw [ax_psh_none, b_Books_init_64, n32_clamp (by omega), n32_add]
    have s3 : ST F gi g 1 r gi3 g3 := ST_sub s2 s3' (s1.2.2.2 2)
    have n26 : g3.2.1 26 = r + 1 := by rw [c3 26, if_neg (by omega), c2 26, if_neg (by decide), k26]
    have old : ∀ t a j, a < g1.2.1 t → gi3 t a j = gi1 t a j ∧ g3.1 t a j = g1.1 t a j := fun t a j hta => by
      have e2 := o2 t a j hta
      have hle : a < g2.2.1 t := by
        rw [c2 t]
        split <;> omega
      have e3 := s3'.1 t a j hle (fun q => by
        obtain ⟨q1, q2⟩ := q
        subst q1
        omega)
      exact ⟨e3.1.trans e2.1, e3.2.trans e2.2⟩
    refine ⟨⟨n32_in (by omega) (by omega), Or.inr ⟨_, rfl⟩⟩, ?_⟩
    refine ih gi3 _ ⟨ST_wRn s3 (by omega) (by omega), fun t ht => ?_, ⟨n26, ?_, ?_⟩, ⟨?_, ?_, ?_⟩, ⟨?_, ?_, ?_⟩, fun k hk => ?_, fun k hk => ⟨?_, ?_⟩, ?_, ?_, ?_⟩
    · show g3.2.1 t = _
      rw [c3 t, if_neg (by omega), c2 t, if_neg (by omega), k1 t ht]
    · show g3.2.1 27 = _
      rw [c3 27, if_neg (by omega), c2 27, if_neg (by omega), k27]
    · show g3.2.1 28 = _
      rw [c3 28, if_neg (by omega), c2 28, if_neg (by omega), k28]
    · show g3.2.1 2 = _
      rw [c3 2, if_neg (by omega), c2 2, if_pos rfl, k2]
      omega
    · show g3.2.1 29 = _
      rw [c3 29, if_pos (Or.inl rfl), c2 29, if_neg (by omega), k29]
      omega
    · show g3.2.1 30 = _
      rw [c3 30, if_pos (Or.inr rfl), c2 30, if_neg (by omega), k30]
      omega
    · show ax_wR g3.1 26 r i (some (2, g1.2.1 2)) 1 r 0 = _
      rw [wR_at, if_neg (by omega), (old 1 r 0 hr1).2, p0]
    · show ax_wR g3.1 26 r i (some (2, g1.2.1 2)) 1 r 2 = _
      rw [wR_at, if_neg (by omega), (old 1 r 2 hr1).2, p2]
    · show ax_wR g3.1 26 r i (some (2, g1.2.1 2)) 1 r 5 = _
      rw [wR_at, if_neg (by omega), (old 1 r 5 hr1).2, p5]
    · show ax_wR g3.1 26 r i (some (2, g1.2.1 2)) 26 r k = _
      rw [wR_at]
      by_cases q : k = i
      · rw [if_pos ⟨rfl, rfl, q⟩, k2, q]
      · rw [if_neg (by omega), (old 26 r k (by omega)).2]
        exact hrow k (by omega)
    · show ax_wR g3.1 26 r i (some (2, g1.2.1 2)) 2 (g.2.1 2 + k) 4 = _
      rw [wR_at, if_neg (by omega)]
      by_cases q : k = i
      · rw [q, ← k2, q4, c2 29, if_neg (by decide), k29]
      · rw [(old 2 _ 4 (by omega)).2]
        exact (hth k (by omega)).1
    · show ax_wR g3.1 26 r i (some (2, g1.2.1 2)) 2 (g.2.1 2 + k) 5 = _
      rw [wR_at, if_neg (by omega)]
      by_cases q : k = i
      · rw [q, ← k2, q5, c2 30, if_neg (by decide), k30]
      · rw [(old 2 _ 5 (by omega)).2]
        exact (hth k (by omega)).2
    · rw [(old 1 r 4 hr1).1, hm]
    · show g3.2.2.2.1 = _
      omega
    · show g3.2.2.2.2 = _
      omega) (by
    intro gi1 g1 hb
    have hb' := hb
    obtain ⟨s1, k1, ⟨k26, k27, k28⟩, ⟨k2, k29, k30⟩, ⟨p0, p2, p5⟩, hrow, hth, hm, ha, hl⟩ := hb
    rw [b_Books_init_46]
    refine ⟨fun z => absurd z (by rw [n32_lt (by omega) (by omega)]; omega), fun _ => ?_⟩
    rw [b_Books_init_71, c0, c4]
    refine ⟨p5, ⟨⟨by decide, by decide, by decide, by omega, by omega⟩, Or.inl rfl⟩, ?_⟩
    refine hq _ g1 ⟨ST_cIn s1 (by omega) (fun j => by unfold DZ; omega), k1, ⟨k26, k27, k28⟩, ⟨k2, k29, k30⟩, ⟨p0, p2, p5⟩, hrow, hth, ?_, ha, hl⟩ (fun k hk => ?_)
    · rw [cI_at, if_neg (by omega)]
      exact hm
    · rw [cI_at, if_pos ⟨rfl, rfl, by omega, by omega⟩, show 0 + (k - 0) = k by omega]
      exact (s1.1 100 0 k h100 (by omega)).1)
  rw [e_Books_init, b_Books_init_0]
  refine ⟨nn 6 (by omega), ?_⟩
  refine K_new (K := fun h => Runs _ _ h _) s0 hr (fun gi1 g1 s1 c1 i1 r1 o1 a1 l1 => ?_)
  rw [b_Books_init_10]
  refine ⟨nn 6 (by omega), ?_⟩
  refine K_pn (K := fun h => Runs _ _ h _) (ST_wI s1 (k := 1) (v := n32 0) (Or.inl rfl)) hr (fun gi2 g2 s2 c2 i2 r2 p2 o2 a2 l2 => ?_)
  rw [b_Books_init_24]
  refine ⟨nn 4 (by omega), ?_⟩
  refine K_pn (K := fun h => Runs _ _ h _) (ST_wI (ST_wI s2 (k := 3) (v := n32 0) (Or.inl rfl)) (k := 4) (v := -1) (Or.inr (by unfold DZ; omega))) hr (fun gi3 g3 s3 c3 i3 r3 p3 o3 a3 l3 => ?_)
  rw [b_Books_init_41]
  refine lp 0 (Nat.zero_le _) gi3 _ ⟨ST_wR s3 hr, fun t ht => ?_, ⟨?_, ?_, ?_⟩, ⟨?_, ?_, ?_⟩, ⟨?_, ?_, ?_⟩, fun k hk => absurd hk (Nat.not_lt_zero k), fun k hk => absurd hk (Nat.not_lt_zero k), ?_, ?_, ?_⟩
  · show g3.2.1 t = _
    rw [c3 t, if_neg (by omega), c2 t, if_neg (by omega), c1 t, if_neg (by omega)]
  · show g3.2.1 26 = _
    rw [c3 26, if_neg (by omega), c2 26, if_neg (by omega), c1 26, if_pos rfl, c26]
  · show g3.2.1 27 = _
    rw [c3 27, if_neg (by omega), c2 27, if_pos rfl, c1 27, if_neg (by omega), c27]
  · show g3.2.1 28 = _
    rw [c3 28, if_pos rfl, c2 28, if_neg (by omega), c1 28, if_neg (by omega), c28]
  · show g3.2.1 2 = _
    rw [c3 2, if_neg (by omega), c2 2, if_neg (by omega), c1 2, if_neg (by omega)]
    rfl
  · show g3.2.1 29 = _
    rw [c3 29, if_neg (by omega), c2 29, if_neg (by omega), c1 29, if_neg (by omega)]
    rfl
  · show g3.2.1 30 = _
    rw [c3 30, if_neg (by omega), c2 30, if_neg (by omega), c1 30, if_neg (by omega)]
    rfl
  · show ax_wR g3.1 1 r 5 (some (28, g2.2.1 28)) 1 r 0 = _
    rw [wR_at, if_neg (by omega), r3 0 (by decide), p2, c26]
  · show ax_wR g3.1 1 r 5 (some (28, g2.2.1 28)) 1 r 2 = _
    rw [wR_at, if_neg (by omega), p3, c1 27, if_neg (by decide), c27]
  · show ax_wR g3.1 1 r 5 (some (28, g2.2.1 28)) 1 r 5 = _
    rw [wR_at, if_pos ⟨rfl, rfl, rfl⟩, c2 28, if_neg (by decide), c1 28, if_neg (by decide), c28]
  · rw [i3 4, wI_self]
  · show g3.2.2.2.1 = _
    omega
  · show g3.2.2.2.2 = _
    omega
