/-! a law made -/
/-- one new array (s, w) of m places, nothing else of the references -/
def NewG (g g' : AG) (s w m : Nat) : Prop := (∀ s' a j, ¬ (s' = s ∧ a = w) → g'.1 s' a j = g.1 s' a j) ∧ (∀ s', g'.2.1 s' = if s' = s then w + 1 else g.2.1 s') ∧ (∀ s' a, g'.2.2.1 s' a = if s' = s ∧ a = w then m else g.2.2.1 s' a) ∧ g'.2.2.2.1 = g.2.2.2.1 + 1 ∧ g'.2.2.2.2 = g.2.2.2.2 + m
theorem new_g (gi : GI) (g : AG) (s n : Nat) : ∃ g', ax_new (gi, g) s n = (ax_zI gi s (g.2.1 s) n, g') ∧ NewG g g' s (g.2.1 s) n := by
  refine ⟨(ax_new (gi, g) s n).2, rfl, ?_, ?_, ?_, rfl, rfl⟩
  · intro s' a j h
    show (if s' = s ∧ a = g.2.1 s ∧ j < n then none else g.1 s' a j) = _
    rw [if_neg (fun q => h ⟨q.1, q.2.1⟩)]
  · intro s'
    rfl
  · intro s' a
    rfl
def OnlyI (gi gi' : GI) (s w : Nat) : Prop := ∀ s' a j, ¬ (s' = s ∧ a = w) → gi' s' a j = gi s' a j
theorem onlyI_z (gi : GI) (s w n : Nat) : OnlyI gi (ax_zI gi s w n) s w := by
  intro s' a j h
  show (if s' = s ∧ a = w ∧ j < n then 0 else gi s' a j) = _
  rw [if_neg (fun q => h ⟨q.1, q.2.1⟩)]
theorem c_copy34 {d m w : Nat} {gi : GI} {g : AG} {Q : Option AV → AH → Prop} (hw : g.2.1 62 = w) (hm : m ≤ 13)
    (hq : ∀ gi' g', OnlyI gi gi' 62 w → (∀ j, j < m → gi' 62 w j = gi 34 0 j) → NewG g g' 62 w m → Q (some (.inr (.inr (some (62, w))))) (gi', g')) :
    ax_call (d + 1) m_Arrays_copyOf [.inr (.inr (some (34, 0))), .inl (n32 m)] (gi, g) Q := by
  subst hw
  rw [e_Arrays_copyOfa, b_Arrays_copyOf_0a]
  refine ⟨fun e => ?_, fun e => ?_⟩
  · rw [n32_eq (by omega) (by omega)] at e
    subst e
    rw [b_Arrays_copyOf_6a]
    have hh : ax_cl (gi, g) 34 0 62 13 = (fun s' a' j' => if s' = 62 ∧ a' = g.2.1 62 ∧ j' < 13 then gi 34 0 j' else gi s' a' j', (ax_new (gi, g) 62 13).2) := rfl
    rw [hh, b_Arrays_copyOf_10]
    obtain ⟨g', e', hn⟩ := new_g gi g 62 13
    rw [e']
    refine hq _ g' ?_ ?_ hn
    · intro s' a j h
      show (if _ then _ else _) = _
      rw [if_neg (fun q => h ⟨q.1, q.2.1⟩)]
    · intro j hj
      show (if _ then _ else _) = _
      rw [if_pos ⟨rfl, rfl, hj⟩]
  · rw [n32_eq (by omega) (by omega)] at e
    have hlt : m < 13 := by omega
    have mx : (if n32 m < n32 13 then n32 m else n32 13) = n32 m := by
      rw [if_pos]
      rw [n32_lt (by omega) (by omega)]
      exact hlt
    have nn : ¬ n32 m < n32 0 := by
      rw [n32_neg (by omega)]
      exact id
    have n0 : ¬ n32 0 < n32 0 := by decide
    have c0 : (n32 0).toNatClampNeg = 0 := by decide
    obtain ⟨g', e', hn⟩ := new_g gi g 62 m
    have hl : g'.2.2.1 62 (g.2.1 62) = m := by
      rw [hn.2.2.1 62 _, if_pos ⟨rfl, rfl⟩]
    rw [b_Arrays_copyOf_14a, n32_clamp (by omega), e']
    refine ⟨⟨nn, by omega⟩, ?_⟩
    rw [b_Arrays_copyOf_17a, mx, c0, n32_clamp (by omega), hl]
    refine ⟨⟨⟨n0, n0, nn, by omega, by omega⟩, Or.inl rfl⟩, ?_⟩
    refine hq _ g' ?_ ?_ hn
    · intro s' a j h
      rw [cI_at, if_neg (fun q => h ⟨q.1, q.2.1⟩)]
      exact onlyI_z gi 62 _ m s' a j h
    · intro j hj
      rw [cI_at, if_pos ⟨rfl, rfl, by omega, by omega⟩, onlyI_z gi 62 _ m 34 0 _ (by omega)]
      congr 1
      omega
theorem c_copy37 {d m w : Nat} {gi : GI} {g : AG} {Q : Option AV → AH → Prop} (hw : g.2.1 62 = w) (hm : m ≤ 401)
    (hq : ∀ gi' g', OnlyI gi gi' 62 w → (∀ j, j < m → gi' 62 w j = gi 37 0 j) → NewG g g' 62 w m → Q (some (.inr (.inr (some (62, w))))) (gi', g')) :
    ax_call (d + 1) m_Arrays_copyOf [.inr (.inr (some (37, 0))), .inl (n32 m)] (gi, g) Q := by
  subst hw
  rw [e_Arrays_copyOfb, b_Arrays_copyOf_0b]
  refine ⟨fun e => ?_, fun e => ?_⟩
  · rw [n32_eq (by omega) (by omega)] at e
    subst e
    rw [b_Arrays_copyOf_6b]
    have hh : ax_cl (gi, g) 37 0 62 401 = (fun s' a' j' => if s' = 62 ∧ a' = g.2.1 62 ∧ j' < 401 then gi 37 0 j' else gi s' a' j', (ax_new (gi, g) 62 401).2) := rfl
    rw [hh, b_Arrays_copyOf_10]
    obtain ⟨g', e', hn⟩ := new_g gi g 62 401
    rw [e']
    refine hq _ g' ?_ ?_ hn
    · intro s' a j h
      show (if _ then _ else _) = _
      rw [if_neg (fun q => h ⟨q.1, q.2.1⟩)]
    · intro j hj
      show (if _ then _ else _) = _
      rw [if_pos ⟨rfl, rfl, hj⟩]
  · rw [n32_eq (by omega) (by omega)] at e
    have hlt : m < 401 := by omega
    have mx : (if n32 m < n32 401 then n32 m else n32 401) = n32 m := by
      rw [if_pos]
      rw [n32_lt (by omega) (by omega)]
      exact hlt
    have nn : ¬ n32 m < n32 0 := by
      rw [n32_neg (by omega)]
      exact id
    have n0 : ¬ n32 0 < n32 0 := by decide
    have c0 : (n32 0).toNatClampNeg = 0 := by decide
    obtain ⟨g', e', hn⟩ := new_g gi g 62 m
    have hl : g'.2.2.1 62 (g.2.1 62) = m := by
      rw [hn.2.2.1 62 _, if_pos ⟨rfl, rfl⟩]
    rw [b_Arrays_copyOf_14b, n32_clamp (by omega), e']
    refine ⟨⟨nn, by omega⟩, ?_⟩
    rw [b_Arrays_copyOf_17b, mx, c0, n32_clamp (by omega), hl]
    refine ⟨⟨⟨n0, n0, nn, by omega, by omega⟩, Or.inl rfl⟩, ?_⟩
    refine hq _ g' ?_ ?_ hn
    · intro s' a j h
      rw [cI_at, if_neg (fun q => h ⟨q.1, q.2.1⟩)]
      exact onlyI_z gi 62 _ m s' a j h
    · intro j hj
      rw [cI_at, if_pos ⟨rfl, rfl, by omega, by omega⟩, onlyI_z gi 62 _ m 37 0 _ (by omega)]
      congr 1
      omega
theorem c_copy38 {d m w : Nat} {gi : GI} {g : AG} {Q : Option AV → AH → Prop} (hw : g.2.1 62 = w) (hm : m ≤ 401)
    (hq : ∀ gi' g', OnlyI gi gi' 62 w → (∀ j, j < m → gi' 62 w j = gi 38 0 j) → NewG g g' 62 w m → Q (some (.inr (.inr (some (62, w))))) (gi', g')) :
    ax_call (d + 1) m_Arrays_copyOf [.inr (.inr (some (38, 0))), .inl (n32 m)] (gi, g) Q := by
  subst hw
  rw [e_Arrays_copyOfc, b_Arrays_copyOf_0c]
  refine ⟨fun e => ?_, fun e => ?_⟩
  · rw [n32_eq (by omega) (by omega)] at e
    subst e
    rw [b_Arrays_copyOf_6c]
    have hh : ax_cl (gi, g) 38 0 62 401 = (fun s' a' j' => if s' = 62 ∧ a' = g.2.1 62 ∧ j' < 401 then gi 38 0 j' else gi s' a' j', (ax_new (gi, g) 62 401).2) := rfl
    rw [hh, b_Arrays_copyOf_10]
    obtain ⟨g', e', hn⟩ := new_g gi g 62 401
    rw [e']
    refine hq _ g' ?_ ?_ hn
    · intro s' a j h
      show (if _ then _ else _) = _
      rw [if_neg (fun q => h ⟨q.1, q.2.1⟩)]
    · intro j hj
      show (if _ then _ else _) = _
      rw [if_pos ⟨rfl, rfl, hj⟩]
  · rw [n32_eq (by omega) (by omega)] at e
    have hlt : m < 401 := by omega
    have mx : (if n32 m < n32 401 then n32 m else n32 401) = n32 m := by
      rw [if_pos]
      rw [n32_lt (by omega) (by omega)]
      exact hlt
    have nn : ¬ n32 m < n32 0 := by
      rw [n32_neg (by omega)]
      exact id
    have n0 : ¬ n32 0 < n32 0 := by decide
    have c0 : (n32 0).toNatClampNeg = 0 := by decide
    obtain ⟨g', e', hn⟩ := new_g gi g 62 m
    have hl : g'.2.2.1 62 (g.2.1 62) = m := by
      rw [hn.2.2.1 62 _, if_pos ⟨rfl, rfl⟩]
    rw [b_Arrays_copyOf_14c, n32_clamp (by omega), e']
    refine ⟨⟨nn, by omega⟩, ?_⟩
    rw [b_Arrays_copyOf_17c, mx, c0, n32_clamp (by omega), hl]
    refine ⟨⟨⟨n0, n0, nn, by omega, by omega⟩, Or.inl rfl⟩, ?_⟩
    refine hq _ g' ?_ ?_ hn
    · intro s' a j h
      rw [cI_at, if_neg (fun q => h ⟨q.1, q.2.1⟩)]
      exact onlyI_z gi 62 _ m s' a j h
    · intro j hj
      rw [cI_at, if_pos ⟨rfl, rfl, by omega, by omega⟩, onlyI_z gi 62 _ m 38 0 _ (by omega)]
      congr 1
      omega
/-- what is made beside: a law numbered q -/
def GN (g : AG) (q : Nat) : Prop := g.2.1 4 = q ∧ g.2.1 60 = q ∧ g.2.1 61 = q ∧ g.2.1 62 = 3 * q
def LawG (g g' : AG) (q : Nat) : Prop := (∀ s a j, s ≠ 4 → s ≠ 60 → s ≠ 61 → s ≠ 62 → g'.1 s a j = g.1 s a j) ∧ (∀ a j, a ≠ q → g'.1 4 a j = g.1 4 a j) ∧ (∀ s a, s ≠ 4 → ¬ (s = 60 ∧ a = q) → ¬ (s = 61 ∧ a = q) → ¬ (s = 62 ∧ 3 * q ≤ a) → g'.2.2.1 s a = g.2.2.1 s a) ∧ (GN g' (q + 1) ∧ ∀ s, s ≠ 4 → s ≠ 60 → s ≠ 61 → s ≠ 62 → g'.2.1 s = g.2.1 s) ∧ g'.2.2.2.1 ≤ g.2.2.2.1 + 6 ∧ g'.2.2.2.2 ≤ g.2.2.2.2 + 900
def LawI (gi gi' : GI) (q : Nat) : Prop := ∀ s a j, ¬ (s = 4 ∧ a = q) → ¬ (s = 60 ∧ a = q) → ¬ (s = 61 ∧ a = q) → ¬ (s = 62 ∧ 3 * q ≤ a) → gi' s a j = gi s a j
theorem GOK_of {g g' : AG} (h : GOK g) (hg : ∀ s a j, s ≠ 4 → s ≠ 60 → s ≠ 61 → s ≠ 62 → s ≠ 27 → g'.1 s a j = g.1 s a j) : GOK g' := by
  unfold GOK at *
  have e0 : ∀ a j, g'.1 0 a j = g.1 0 a j := fun a j => hg 0 a j (by decide) (by decide) (by decide) (by decide) (by decide)
  have e1 : ∀ a j, g'.1 1 a j = g.1 1 a j := fun a j => hg 1 a j (by decide) (by decide) (by decide) (by decide) (by decide)
  have e2 : ∀ a j, g'.1 2 a j = g.1 2 a j := fun a j => hg 2 a j (by decide) (by decide) (by decide) (by decide) (by decide)
  have e3 : ∀ a j, g'.1 3 a j = g.1 3 a j := fun a j => hg 3 a j (by decide) (by decide) (by decide) (by decide) (by decide)
  have e5 : ∀ a j, g'.1 5 a j = g.1 5 a j := fun a j => hg 5 a j (by decide) (by decide) (by decide) (by decide) (by decide)
  have e6 : ∀ a j, g'.1 6 a j = g.1 6 a j := fun a j => hg 6 a j (by decide) (by decide) (by decide) (by decide) (by decide)
  have e7 : ∀ a j, g'.1 7 a j = g.1 7 a j := fun a j => hg 7 a j (by decide) (by decide) (by decide) (by decide) (by decide)
  have e8 : ∀ a j, g'.1 8 a j = g.1 8 a j := fun a j => hg 8 a j (by decide) (by decide) (by decide) (by decide) (by decide)
  have e9 : ∀ a j, g'.1 9 a j = g.1 9 a j := fun a j => hg 9 a j (by decide) (by decide) (by decide) (by decide) (by decide)
  have e10 : ∀ a j, g'.1 10 a j = g.1 10 a j := fun a j => hg 10 a j (by decide) (by decide) (by decide) (by decide) (by decide)
  have e11 : ∀ a j, g'.1 11 a j = g.1 11 a j := fun a j => hg 11 a j (by decide) (by decide) (by decide) (by decide) (by decide)
  have e12 : ∀ a j, g'.1 12 a j = g.1 12 a j := fun a j => hg 12 a j (by decide) (by decide) (by decide) (by decide) (by decide)
  have e20 : ∀ a j, g'.1 20 a j = g.1 20 a j := fun a j => hg 20 a j (by decide) (by decide) (by decide) (by decide) (by decide)
  have e25 : ∀ a j, g'.1 25 a j = g.1 25 a j := fun a j => hg 25 a j (by decide) (by decide) (by decide) (by decide) (by decide)
  have e26 : ∀ a j, g'.1 26 a j = g.1 26 a j := fun a j => hg 26 a j (by decide) (by decide) (by decide) (by decide) (by decide)
  have e47 : ∀ a j, g'.1 47 a j = g.1 47 a j := fun a j => hg 47 a j (by decide) (by decide) (by decide) (by decide) (by decide)
  have e58 : ∀ a j, g'.1 58 a j = g.1 58 a j := fun a j => hg 58 a j (by decide) (by decide) (by decide) (by decide) (by decide)
  simp only [e0, e1, e2, e3, e5, e6, e7, e8, e9, e10, e11, e12, e20, e25, e26, e47, e58]
  exact h
