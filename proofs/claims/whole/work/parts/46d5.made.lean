/-! books made while the object is in use -/
/-- the cells of books numbered r -/
def nfS (r s a : Nat) : Prop := ((s = 1 ∨ (26 ≤ s ∧ s ≤ 28)) ∧ a = r) ∨ ((s = 2 ∨ s = 29 ∨ s = 30) ∧ 6 * r ≤ a ∧ a < 6 * r + 6)
/-- all else is as it was -/
def NF (r : Nat) (gi : GI) (g : AG) (gi' : GI) (g' : AG) : Prop := (∀ s a, ¬ nfS r s a → (∀ j, gi' s a j = gi s a j ∧ g'.1 s a j = g.1 s a j) ∧ g'.2.2.1 s a = g.2.2.1 s a) ∧ (∀ j, 6 ≤ j → g'.1 26 r j = g.1 26 r j) ∧ ∀ s, ¬ (s = 1 ∨ s = 2 ∨ (26 ≤ s ∧ s ≤ 30)) → g'.2.1 s = g.2.1 s
theorem NF_refl (r : Nat) (gi : GI) (g : AG) : NF r gi g gi g := ⟨fun _ _ _ => ⟨fun _ => ⟨rfl, rfl⟩, rfl⟩, fun _ _ => rfl, fun _ _ => rfl⟩
theorem NF_wI {r s a k : Nat} {v : Int32} {gi gi' : GI} {g g' : AG} (h : NF r gi g gi' g') (hs : nfS r s a) : NF r gi g (ax_wI gi' s a k v) g' := by
  refine ⟨fun s' a' q => ⟨fun j => ⟨?_, ((h.1 s' a' q).1 j).2⟩, (h.1 s' a' q).2⟩, h.2⟩
  rw [wI_at, if_neg (fun z => q (by rw [z.1, z.2.1]; exact hs))]
  exact ((h.1 s' a' q).1 j).1
theorem NF_wR {r s a k : Nat} {v : AR} {gi gi' : GI} {g g' : AG} (h : NF r gi g gi' g') (hs : nfS r s a) (hk : ¬ (s = 26 ∧ 6 ≤ k)) : NF r gi g gi' (ax_wR g'.1 s a k v, g'.2) := by
  refine ⟨fun s' a' q => ⟨fun j => ⟨((h.1 s' a' q).1 j).1, ?_⟩, (h.1 s' a' q).2⟩, fun j hj => ?_, h.2.2⟩
  · show ax_wR g'.1 s a k v s' a' j = _
    rw [wR_at, if_neg (fun z => q (by rw [z.1, z.2.1]; exact hs))]
    exact ((h.1 s' a' q).1 j).2
  · show ax_wR g'.1 s a k v 26 r j = _
    rw [wR_at, if_neg (fun z => hk ⟨z.1.symm, by rw [← z.2.2]; exact hj⟩)]
    exact h.2.1 j hj
theorem NF_cI {r s a sp t b dp n : Nat} {gi gi' : GI} {g g' : AG} (h : NF r gi g gi' g') (hs : nfS r t b) : NF r gi g (ax_cI gi' s a sp t b dp n) g' := by
  refine ⟨fun s' a' q => ⟨fun j => ⟨?_, ((h.1 s' a' q).1 j).2⟩, (h.1 s' a' q).2⟩, h.2⟩
  rw [cI_at, if_neg (fun z => q (by rw [z.1, z.2.1]; exact hs))]
  exact ((h.1 s' a' q).1 j).1
/-- a new cell, then go on -/
theorem NF_new {r s n : Nat} {gi gi' : GI} {g g' : AG} {K : AH → Prop} (h : NF r gi g gi' g') (hs : nfS r s (g'.2.1 s)) (hn : s = 26 → n ≤ 6)
    (hq : ∀ (gi2 : GI) (g2 : AG), NF r gi g gi2 g2 → (∀ t, g2.2.1 t = if t = s then g'.2.1 t + 1 else g'.2.1 t) → (∀ t a j, ¬ (t = s ∧ a = g'.2.1 s) → gi2 t a j = gi' t a j ∧ g2.1 t a j = g'.1 t a j) → (∀ j, j < n → g2.1 s (g'.2.1 s) j = none) → g2.2.2.2.1 = g'.2.2.2.1 + 1 → g2.2.2.2.2 = g'.2.2.2.2 + n → K (gi2, g2)) : K (ax_new (gi', g') s n) := by
  obtain ⟨g2, e, n1, n2, n3, n4, n5⟩ := new_g gi' g' s n
  have hI : ∀ t a j, ¬ (t = s ∧ a = g'.2.1 s) → ax_zI gi' s (g'.2.1 s) n t a j = gi' t a j := fun t a j z => onlyI_z gi' s (g'.2.1 s) n t a j z
  have hsite : s = 1 ∨ s = 2 ∨ (26 ≤ s ∧ s ≤ 30) := by unfold nfS at hs; omega
  have e2 : g2 = (ax_new (gi', g') s n).2 := by rw [e]
  have hR : ∀ t a j, g2.1 t a j = if t = s ∧ a = g'.2.1 s ∧ j < n then none else g'.1 t a j := fun t a j => by rw [e2]; rfl
  rw [e]
  refine hq _ g2 ⟨fun t a q => ⟨fun j => ⟨?_, ?_⟩, ?_⟩, fun j hj => ?_, fun t ht => ?_⟩ (fun t => ?_) (fun t a j z => ⟨hI t a j z, n1 t a j z⟩) (fun j hj => ?_) n4 n5
  · rw [hI t a j (fun z => q (by rw [z.1, z.2]; exact hs))]
    exact ((h.1 t a q).1 j).1
  · rw [n1 t a j (fun z => q (by rw [z.1, z.2]; exact hs))]
    exact ((h.1 t a q).1 j).2
  · rw [n3, if_neg (fun z => q (by rw [z.1, z.2]; exact hs))]
    exact (h.1 t a q).2
  · rw [hR, if_neg (fun z => by
      have := hn z.1.symm
      omega)]
    exact h.2.1 j hj
  · rw [n2, if_neg (fun z => ht (by rw [z]; exact hsite))]
    exact h.2.2 t ht
  · rw [n2]
    by_cases z : t = s
    · rw [if_pos z, if_pos z, z]
    · rw [if_neg z, if_neg z]
  · rw [hR, if_pos ⟨rfl, rfl, hj⟩]
/-- books, i things of theirs made -/
def BkM (r i : Nat) (gi : GI) (g : AG) (gi1 : GI) (g1 : AG) : Prop := NF r gi g gi1 g1 ∧ (g1.2.1 1 = r + 1 ∧ g1.2.1 26 = r + 1 ∧ g1.2.1 27 = r + 1 ∧ g1.2.1 28 = r + 1) ∧ (g1.2.1 2 = 6 * r + i ∧ g1.2.1 29 = 6 * r + i ∧ g1.2.1 30 = 6 * r + i) ∧ (g1.1 1 r 0 = some (26, r) ∧ g1.1 1 r 2 = some (27, r) ∧ g1.1 1 r 5 = some (28, r)) ∧ (∀ k, k < i → g1.1 26 r k = some (2, 6 * r + k) ∧ g1.1 2 (6 * r + k) 4 = some (29, 6 * r + k) ∧ g1.1 2 (6 * r + k) 5 = some (30, 6 * r + k)) ∧ (∀ l, l < 6 → g1.1 27 r l = none) ∧ g1.2.2.2.1 = g.2.2.2.1 + 3 + 3 * i ∧ g1.2.2.2.2 = g.2.2.2.2 + 16 + 134 * i
theorem n32_nn (k : Nat) (h : k < 2147483648) : ¬ n32 k < n32 0 ∧ (n32 k).toNatClampNeg = k := ⟨by rw [n32_neg h]; exact id, n32_clamp h⟩
theorem c_Books_init {d r : Nat} {gi : GI} {g : AG} {Q : Option AV → AH → Prop} (n1 : g.2.1 1 = r + 1) (n26 : g.2.1 26 = r) (n27 : g.2.1 27 = r) (n28 : g.2.1 28 = r) (n2 : g.2.1 2 = 6 * r) (n29 : g.2.1 29 = 6 * r) (n30 : g.2.1 30 = 6 * r)
    (hq : ∀ (gi' : GI) (g' : AG), BkM r 6 gi g gi' g' → Q none (gi', g')) :
    ax_call (d + 2) m_Books_init [.inr (.inr (some (1, r)))] (gi, g) Q := by
  have c0 : (n32 0).toNatClampNeg = 0 := by decide
  have c4 : (n32 4).toNatClampNeg = 4 := by decide
  have s1 : nfS r 1 r := Or.inl ⟨by omega, rfl⟩
  have s26 : nfS r 26 r := Or.inl ⟨by omega, rfl⟩
  have s28 : nfS r 28 r := Or.inl ⟨by omega, rfl⟩
  have lp := loop_up (n := 6) (P := fun i => ∀ (gi1 : GI) (g1 : AG), BkM r i gi g gi1 g1 → Runs (d + 1) (m_Books_init, 46, [some (.inr (.inr (some (1, r)))), some (.inl (n32 i))], []) (gi1, g1) Q) (by
    intro i hi ih gi1 g1 hb
    obtain ⟨hN, ⟨k1, k26, k27, k28⟩, ⟨k2, k29, k30⟩, ⟨p0, p2, p5⟩, hT, hL, hc, hs⟩ := hb
    have sT : ∀ s, s = 2 ∨ s = 29 ∨ s = 30 → nfS r s (6 * r + i) := fun s q => Or.inr ⟨q, by omega, by omega⟩
    rw [b_Books_init_46]
    refine ⟨fun _ => ?_, fun z => absurd (by rw [n32_lt (by omega) (by omega)]; exact hi) z⟩
    rw [b_Books_init_52]
    refine ⟨p0, ?_⟩
    refine NF_new (K := fun h => Runs _ _ h _) hN (by rw [k2]; exact sT 2 (by omega)) (fun z => by omega) (fun gi2 g2 hN2 c2 o2 z2 a2 l2 => ?_)
    rw [b_Books_init_60, k2, e_Thing_init, b_Thing_init_0]
    refine ⟨n32_nn 64 (by omega), ?_⟩
    have hN2' := NF_wI (NF_wI (NF_wI (NF_wI hN2 (k := 0) (v := n32 1) (sT 2 (by omega))) (k := 1) (v := n32 1) (sT 2 (by omega))) (k := 2) (v := n32 0) (sT 2 (by omega))) (k := 3) (v := -1) (sT 2 (by omega))
    have q29 : g2.2.1 29 = 6 * r + i := by rw [c2, if_neg (by decide), k29]
    refine NF_new (K := fun h => Runs _ _ h _) hN2' (by rw [q29]; exact sT 29 (by omega)) (fun z => by omega) (fun gi3 g3 hN3 c3 o3 z3 a3 l3 => ?_)
    rw [b_Thing_init_29]
    refine ⟨n32_nn 64 (by omega), ?_⟩
    have q30 : g3.2.1 30 = 6 * r + i := by rw [c3, if_neg (by decide), c2, if_neg (by decide), k30]
    refine NF_new (K := fun h => Runs _ _ h _) (NF_wR hN3 (k := 4) (v := some (29, g2.2.1 29)) (sT 2 (by omega)) (by omega)) (by show nfS r 30 (g3.2.1 30); rw [q30]; exact sT 30 (by omega)) (fun z => by omega) (fun gi4 g4 hN4 c4' o4 z4 a4 l4 => ?_)
    rw [b_Thing_init_37, ax_psh_none, b_Books_init_64, n32_clamp (by omega), n32_add]
    refine ⟨⟨n32_in (by omega) (by omega), Or.inr ⟨_, rfl⟩⟩, ?_⟩
    have cn : ∀ t, g4.2.1 t = if t = 30 then 6 * r + i + 1 else if t = 29 then 6 * r + i + 1 else if t = 2 then 6 * r + i + 1 else g1.2.1 t := fun t => by
      have e4 : g4.2.1 t = if t = 30 then g3.2.1 t + 1 else g3.2.1 t := c4' t
      rw [e4]
      by_cases y : t = 30
      · rw [if_pos y, if_pos y, y, q30]
      · rw [if_neg y, if_neg y, c3]
        by_cases y2 : t = 29
        · rw [if_pos y2, if_pos y2, y2, q29]
        · rw [if_neg y2, if_neg y2, c2]
          by_cases y3 : t = 2
          · rw [if_pos y3, if_pos y3, y3, k2]
          · rw [if_neg y3, if_neg y3]
    have rf : ∀ t a j, ¬ ((t = 2 ∨ t = 29 ∨ t = 30) ∧ a = 6 * r + i) → g4.1 t a j = g1.1 t a j := fun t a j z => by
      rw [(o4 t a j (fun y => z (by rw [y.1, y.2]; exact ⟨by omega, q30⟩))).2]
      show ax_wR g3.1 2 (6 * r + i) 4 (some (29, g2.2.1 29)) t a j = _
      rw [wR_at, if_neg (fun y => z ⟨Or.inl y.1, y.2.1⟩), (o3 t a j (fun y => z (by rw [y.1, y.2]; exact ⟨by omega, q29⟩))).2, (o2 t a j (fun y => z (by rw [y.1, y.2]; exact ⟨by omega, k2⟩))).2]
    have r4 : g4.1 2 (6 * r + i) 4 = some (29, 6 * r + i) := by
      rw [(o4 2 (6 * r + i) 4 (fun y => by omega)).2]
      show ax_wR g3.1 2 (6 * r + i) 4 (some (29, g2.2.1 29)) 2 (6 * r + i) 4 = _
      rw [wR_at, if_pos ⟨rfl, rfl, rfl⟩, q29]
    refine ih gi4 _ ⟨NF_wR (NF_wR hN4 (k := 5) (v := some (30, g3.2.1 30)) (sT 2 (by omega)) (by omega)) (k := i) (v := some (2, 6 * r + i)) s26 (by omega), ⟨?_, ?_, ?_, ?_⟩, ⟨?_, ?_, ?_⟩, ⟨?_, ?_, ?_⟩, fun k hk => ?_, fun l hl => ?_, ?_, ?_⟩
    · show g4.2.1 1 = _
      rw [cn, if_neg (by decide), if_neg (by decide), if_neg (by decide), k1]
    · show g4.2.1 26 = _
      rw [cn, if_neg (by decide), if_neg (by decide), if_neg (by decide), k26]
    · show g4.2.1 27 = _
      rw [cn, if_neg (by decide), if_neg (by decide), if_neg (by decide), k27]
    · show g4.2.1 28 = _
      rw [cn, if_neg (by decide), if_neg (by decide), if_neg (by decide), k28]
    · show g4.2.1 2 = _
      rw [cn, if_neg (by decide), if_neg (by decide), if_pos rfl]
      omega
    · show g4.2.1 29 = _
      rw [cn, if_neg (by decide), if_pos rfl]
      omega
    · show g4.2.1 30 = _
      rw [cn, if_pos rfl]
      omega
    · show ax_wR (ax_wR g4.1 2 (6 * r + i) 5 (some (30, g3.2.1 30))) 26 r i (some (2, 6 * r + i)) 1 r 0 = _
      rw [wR_at, if_neg (by omega), wR_at, if_neg (by omega), rf 1 r 0 (by omega), p0]
    · show ax_wR (ax_wR g4.1 2 (6 * r + i) 5 (some (30, g3.2.1 30))) 26 r i (some (2, 6 * r + i)) 1 r 2 = _
      rw [wR_at, if_neg (by omega), wR_at, if_neg (by omega), rf 1 r 2 (by omega), p2]
    · show ax_wR (ax_wR g4.1 2 (6 * r + i) 5 (some (30, g3.2.1 30))) 26 r i (some (2, 6 * r + i)) 1 r 5 = _
      rw [wR_at, if_neg (by omega), wR_at, if_neg (by omega), rf 1 r 5 (by omega), p5]
    · show ax_wR (ax_wR g4.1 2 (6 * r + i) 5 (some (30, g3.2.1 30))) 26 r i (some (2, 6 * r + i)) 26 r k = _ ∧ ax_wR (ax_wR g4.1 2 (6 * r + i) 5 (some (30, g3.2.1 30))) 26 r i (some (2, 6 * r + i)) 2 (6 * r + k) 4 = _ ∧ ax_wR (ax_wR g4.1 2 (6 * r + i) 5 (some (30, g3.2.1 30))) 26 r i (some (2, 6 * r + i)) 2 (6 * r + k) 5 = _
      by_cases z : k = i
      · subst z
        refine ⟨?_, ?_, ?_⟩
        · rw [wR_at, if_pos ⟨rfl, rfl, rfl⟩]
        · rw [wR_at, if_neg (by omega), wR_at, if_neg (by omega), r4]
        · rw [wR_at, if_neg (by omega), wR_at, if_pos ⟨rfl, rfl, rfl⟩, q30]
      · obtain ⟨t1, t2, t3⟩ := hT k (by omega)
        refine ⟨?_, ?_, ?_⟩
        · rw [wR_at, if_neg (by omega), wR_at, if_neg (by omega), rf 26 r k (by omega), t1]
        · rw [wR_at, if_neg (by omega), wR_at, if_neg (by omega), rf 2 (6 * r + k) 4 (by omega), t2]
        · rw [wR_at, if_neg (by omega), wR_at, if_neg (by omega), rf 2 (6 * r + k) 5 (by omega), t3]
    · show ax_wR (ax_wR g4.1 2 (6 * r + i) 5 (some (30, g3.2.1 30))) 26 r i (some (2, 6 * r + i)) 27 r l = _
      rw [wR_at, if_neg (by omega), wR_at, if_neg (by omega), rf 27 r l (by omega), hL l hl]
    · show g4.2.2.2.1 = _
      have : g4.2.2.2.1 = g3.2.2.2.1 + 1 := a4
      omega
    · show g4.2.2.2.2 = _
      have : g4.2.2.2.2 = g3.2.2.2.2 + 64 := l4
      omega) (by
    intro gi1 g1 hb
    have hb' := hb
    obtain ⟨hN, hk, hk2, ⟨p0, p2, p5⟩, hrest⟩ := hb
    rw [b_Books_init_46]
    refine ⟨fun z => absurd z (by rw [n32_lt (by omega) (by omega)]; omega), fun _ => ?_⟩
    rw [b_Books_init_71, c0, c4]
    refine ⟨p5, ⟨⟨by decide, by decide, by decide, by omega, by omega⟩, Or.inl rfl⟩, ?_⟩
    exact hq _ g1 ⟨NF_cI hN s28, hk, hk2, ⟨p0, p2, p5⟩, hrest⟩)
  rw [e_Books_init, b_Books_init_0]
  refine ⟨n32_nn 6 (by omega), ?_⟩
  refine NF_new (K := fun h => Runs _ _ h _) (NF_refl r gi g) (by rw [n26]; exact s26) (fun _ => Nat.le_refl 6) (fun gi1 g1 hN1 c1 o1 z1 a1 l1 => ?_)
  rw [b_Books_init_10, n26]
  refine ⟨n32_nn 6 (by omega), ?_⟩
  have q27 : g1.2.1 27 = r := by rw [c1, if_neg (by decide), n27]
  refine NF_new (K := fun h => Runs _ _ h _) (NF_wR (NF_wI hN1 (k := 1) (v := n32 0) s1) (k := 0) (v := some (26, r)) s1 (by omega)) (by show nfS r 27 (g1.2.1 27); rw [q27]; exact Or.inl ⟨by omega, rfl⟩) (fun z => by omega) (fun gi2 g2 hN2 c2 o2 z2 a2 l2 => ?_)
  have q27' : (ax_wR g1.1 1 r 0 (some (26, r)), g1.2).2.1 27 = r := q27
  rw [b_Books_init_24, q27]
  refine ⟨n32_nn 4 (by omega), ?_⟩
  have q28 : g2.2.1 28 = r := by
    rw [c2, if_neg (by decide)]
    show g1.2.1 28 = r
    rw [c1, if_neg (by decide), n28]
  refine NF_new (K := fun h => Runs _ _ h _) (NF_wR (NF_wI (NF_wI hN2 (k := 3) (v := n32 0) s1) (k := 4) (v := -1) s1) (k := 2) (v := some (27, r)) s1 (by omega)) (by show nfS r 28 (g2.2.1 28); rw [q28]; exact s28) (fun z => by omega) (fun gi3 g3 hN3 c3 o3 z3 a3 l3 => ?_)
  rw [b_Books_init_41, q28]
  have cn : ∀ t, g3.2.1 t = if t = 28 then r + 1 else if t = 27 then r + 1 else if t = 26 then r + 1 else g.2.1 t := fun t => by
    have e3 : g3.2.1 t = if t = 28 then g2.2.1 t + 1 else g2.2.1 t := c3 t
    have e2 : g2.2.1 t = if t = 27 then g1.2.1 t + 1 else g1.2.1 t := c2 t
    rw [e3]
    by_cases y : t = 28
    · rw [if_pos y, if_pos y, y, q28]
    · rw [if_neg y, if_neg y, e2]
      by_cases y2 : t = 27
      · rw [if_pos y2, if_pos y2, y2, q27]
      · rw [if_neg y2, if_neg y2, c1]
        by_cases y3 : t = 26
        · rw [if_pos y3, if_pos y3, y3, n26]
        · rw [if_neg y3, if_neg y3]
  have r3 : ∀ j, g3.1 1 r j = ax_wR g2.1 1 r 2 (some (27, r)) 1 r j := fun j => (o3 1 r j (by omega)).2
  have r2 : ∀ j, g2.1 1 r j = ax_wR g1.1 1 r 0 (some (26, r)) 1 r j := fun j => (o2 1 r j (by omega)).2
  refine lp 0 (Nat.zero_le _) gi3 _ ⟨NF_wR hN3 (k := 5) (v := some (28, r)) s1 (by omega), ⟨?_, ?_, ?_, ?_⟩, ⟨?_, ?_, ?_⟩, ⟨?_, ?_, ?_⟩, fun k hk => absurd hk (Nat.not_lt_zero k), fun l hl => ?_, ?_, ?_⟩
  · show g3.2.1 1 = _
    rw [cn, if_neg (by decide), if_neg (by decide), if_neg (by decide), n1]
  · show g3.2.1 26 = _
    rw [cn, if_neg (by decide), if_neg (by decide), if_pos rfl]
  · show g3.2.1 27 = _
    rw [cn, if_neg (by decide), if_pos rfl]
  · show g3.2.1 28 = _
    rw [cn, if_pos rfl]
  · show g3.2.1 2 = _
    rw [cn, if_neg (by decide), if_neg (by decide), if_neg (by decide), n2]
    rfl
  · show g3.2.1 29 = _
    rw [cn, if_neg (by decide), if_neg (by decide), if_neg (by decide), n29]
    rfl
  · show g3.2.1 30 = _
    rw [cn, if_neg (by decide), if_neg (by decide), if_neg (by decide), n30]
    rfl
  · show ax_wR g3.1 1 r 5 (some (28, r)) 1 r 0 = _
    rw [wR_at, if_neg (by omega), r3, wR_at, if_neg (by omega), r2, wR_at, if_pos ⟨rfl, rfl, rfl⟩]
  · show ax_wR g3.1 1 r 5 (some (28, r)) 1 r 2 = _
    rw [wR_at, if_neg (by omega), r3, wR_at, if_pos ⟨rfl, rfl, rfl⟩]
  · show ax_wR g3.1 1 r 5 (some (28, r)) 1 r 5 = _
    rw [wR_at, if_pos ⟨rfl, rfl, rfl⟩]
  · show ax_wR g3.1 1 r 5 (some (28, r)) 27 r l = _
    rw [wR_at, if_neg (by omega), (o3 27 r l (by show ¬ (27 = 28 ∧ r = g2.2.1 28); omega)).2]
    show ax_wR g2.1 1 r 2 (some (27, r)) 27 r l = _
    rw [wR_at, if_neg (by omega), ← q27]
    exact z2 l hl
  · show g3.2.2.2.1 = _
    have e1 : g3.2.2.2.1 = g2.2.2.2.1 + 1 := a3
    have e2 : g2.2.2.2.1 = g1.2.2.2.1 + 1 := a2
    omega
  · show g3.2.2.2.2 = _
    have e1 : g3.2.2.2.2 = g2.2.2.2.2 + 4 := l3
    have e2 : g2.2.2.2.2 = g1.2.2.2.2 + 6 := l2
    omega
