/-! what is seen of where both stand; calls that only ask -/
def qMod (s j : Nat) : Bool := s == 3 || s == 5 || s == 7 || s == 11 || (Nat.ble 39 s && Nat.ble s 42) || (Nat.ble 53 s && Nat.ble s 59) || (s == 12 && ((Nat.ble 15 j && Nat.ble j 28) || j == 42 || j == 44 || j == 45 || j == 50)) || (Nat.ble 69 s && Nat.ble s 76) || (Nat.ble 78 s && Nat.ble s 84) || s == 86
theorem Core_q {n : Nat} {gi gi' : GI} {g g' : AG} {Ls : Nat → List PC} (h : Core n gi g Ls) (hf : Fr qMod gi gi') (hg : GF g g') (hp : ∀ t, t < 6 → PaperInv gi' t) (hs : ∃ s, s ≤ 300 * (n + 1) ∧ Stamps gi' s) : Core (n + 1) gi' g' Ls ∧ Step gi gi' := by
  obtain ⟨⟨hG, hS, hW, hSt, hR⟩, hB, hI, -, -, len, v, dd, B, hv, hM⟩ := h
  have e64 : ∀ j, gi' 64 0 j = gi 64 0 j := fun j => hf 64 0 j rfl
  refine ⟨⟨⟨hg.2.1, StrOK_of hS (fun a j => hf 101 a j rfl) (fun a j => hf 103 a j rfl) (fun a j => hg.1 101 a j (by decide) (by decide) (by decide)) (fun a => by rw [hg.2.2]), fun j hj => (hf 67 0 j rfl).trans (hW j hj), ?_, Room_of hR hg.2.2⟩, BooksR_of hB (fun j _ => e64 j) (fun s a j q => by rcases q with rfl | rfl | rfl | rfl | rfl | rfl | rfl | rfl | rfl <;> exact hf _ _ _ rfl) hg, Images_of hI (fun s a j q => by rcases q with rfl | rfl | rfl | rfl | rfl | rfl | rfl | rfl | rfl | rfl | rfl <;> exact hf _ _ _ rfl) hg, hp, hs, len, v, dd, B, by omega, ?_⟩, ?_, Or.inl ⟨hf 0 0 9 rfl, hf 12 0 1 rfl, e64⟩⟩
  · unfold StatOK at *
    rw [hf 100 1 0 rfl, hf 100 1 1 rfl, hf 100 1 2 rfl, hf 100 1 3 rfl, hf 100 2 0 rfl, hf 100 2 1 rfl, hf 100 2 2 rfl, hf 100 2 3 rfl]
    exact hSt
  · obtain ⟨a1, a2, a3, a4, a5, a6, a7⟩ := hM
    unfold Misc
    have x24 : ∀ i, gi' 24 0 i = gi 24 0 i := fun i => hf 24 0 i rfl
    have x85 : ∀ i, gi' 85 0 i = gi 85 0 i := fun i => hf 85 0 i rfl
    rw [hf 0 0 4 rfl, hf 12 0 10 rfl, hf 0 0 5 rfl, hf 12 0 11 rfl, hf 0 0 6 rfl, hf 12 0 6 rfl, hf 0 0 8 rfl, hf 12 0 0 rfl, hf 23 0 0 rfl, hf 23 0 1 rfl, hf 23 0 2 rfl, hf 23 0 3 rfl, hf 23 0 4 rfl, hf 63 0 1 rfl, hf 63 0 2 rfl, hf 63 0 3 rfl, hf 63 0 5 rfl, hf 63 0 6 rfl, hf 0 0 9 rfl, hf 12 0 1 rfl, hf 0 0 11 rfl, hf 12 0 49 rfl]
    simp only [x24, x85]
    refine ⟨a1, a2, a3, a4, a5, fun i hi => ?_, fun i hi => ?_⟩
    · rw [hf 22 0 i rfl]
      exact a6 i hi
    · rw [hf 68 0 i rfl]
      exact a7 i hi
  · intro s a j q
    refine hf s a j ?_
    unfold srch at q
    unfold qMod
    have hb : ∀ x y : Nat, Nat.ble x y = true ↔ x ≤ y := fun x y => by rw [Nat.ble_eq]
    cases hz : (s == 3 || s == 5 || s == 7 || s == 11 || (Nat.ble 39 s && Nat.ble s 42) || (Nat.ble 53 s && Nat.ble s 59) || (s == 12 && ((Nat.ble 15 j && Nat.ble j 28) || j == 42 || j == 44 || j == 45 || j == 50)) || (Nat.ble 69 s && Nat.ble s 76) || (Nat.ble 78 s && Nat.ble s 84) || s == 86) with
    | false => rfl
    | true =>
      exfalso
      simp only [Bool.or_eq_true, Bool.and_eq_true, beq_iff_eq, hb] at q hz
      omega
theorem Core_same {n : Nat} {gi : GI} {g : AG} {Ls : Nat → List PC} (h : Core n gi g Ls) : Core (n + 1) gi g Ls ∧ Step gi gi := by
  obtain ⟨s, h1, h2⟩ := h.2.2.2.2.1
  exact Core_q h (Fr_refl _ _) (GF_refl h.1.1) h.2.2.2.1 ⟨s, by omega, h2⟩
/-- only the reference's scratch has changed -/
theorem Core_m {n : Nat} {gi gi' : GI} {g : AG} {Ls : Nat → List PC} (h : Core n gi g Ls) (hf : Fr qMod gi gi') (h3 : ∀ t j, gi' 3 t j = gi 3 t j) (h59 : ∀ a j, gi' 59 a j = gi 59 a j) (h7 : gi' 7 0 4 = gi 7 0 4) (h39 : ∀ j, gi' 39 0 j = gi 39 0 j) : Core (n + 1) gi' g Ls ∧ Step gi gi' := by
  obtain ⟨s, h1, h2⟩ := h.2.2.2.2.1
  exact Core_q h hf (GF_refl h.1.1) (fun t ht => PaperInv_of (h.2.2.2.1 t ht) (fun j => h3 t j) h59) ⟨s, by omega, Stamps_of h2 h7 h39⟩
theorem qMod_lay {gi gi' : GI} (h : Fr layMod gi gi') : Fr qMod gi gi' := Fr_mono h (fun s j q => by
  unfold qMod at q
  unfold layMod
  have hb : ∀ x y : Nat, Nat.ble x y = true ↔ x ≤ y := fun x y => by rw [Nat.ble_eq]
  cases hz : ((s == 12 && Nat.ble 24 j && Nat.ble j 28) || s == 74) with
  | false => rfl
  | true =>
    exfalso
    rw [← Bool.not_eq_true] at q
    simp only [Bool.or_eq_true, Bool.and_eq_true, beq_iff_eq, hb] at q hz
    omega)
theorem qMod_ow {gi gi' : GI} (h : Fr owMod gi gi') : Fr qMod gi gi' := Fr_mono h (fun s j q => by
  unfold qMod at q
  unfold owMod layMod taxMod
  have hb : ∀ x y : Nat, Nat.ble x y = true ↔ x ≤ y := fun x y => by rw [Nat.ble_eq]
  cases hz : (((s == 12 && Nat.ble 24 j && Nat.ble j 28) || s == 74) || ((s == 12 && (j == 19 || j == 20 || j == 21)) || s == 73)) with
  | false => rfl
  | true =>
    exfalso
    rw [← Bool.not_eq_true] at q
    simp only [Bool.or_eq_true, Bool.and_eq_true, beq_iff_eq, hb] at q hz
    omega)
theorem qMod_clk {gi gi' : GI} (h : Fr clkMod gi gi') : Fr qMod gi gi' := Fr_mono h (fun s j q => by
  unfold qMod at q
  unfold clkMod
  have hb : ∀ x y : Nat, Nat.ble x y = true ↔ x ≤ y := fun x y => by rw [Nat.ble_eq]
  cases hz : (s == 39 || s == 40 || s == 41 || s == 42 || (s == 5 && (j == 2 || j == 3))) with
  | false => rfl
  | true =>
    exfalso
    rw [← Bool.not_eq_true] at q
    simp only [Bool.or_eq_true, Bool.and_eq_true, beq_iff_eq, hb] at q hz
    omega)
theorem qMod_op {gi gi' : GI} (h : Fr opMod gi gi') : Fr qMod gi gi' := Fr_mono h (fun s j q => by
  unfold qMod at q
  unfold opMod
  have hb : ∀ x y : Nat, Nat.ble x y = true ↔ x ≤ y := fun x y => by rw [Nat.ble_eq]
  cases hz : ((s == 7 && (j == 3 || j == 4)) || s == 41) with
  | false => rfl
  | true =>
    exfalso
    rw [← Bool.not_eq_true] at q
    simp only [Bool.or_eq_true, Bool.and_eq_true, beq_iff_eq, hb] at q hz
    omega)
theorem qMod_P {gi gi' : GI} {t : Nat} (h : OnlyP t gi gi') : Fr qMod gi gi' := fun s a j q => h s a j (fun z => by rw [z.1] at q; exact absurd q (by simp [qMod])) (fun z => by rcases z.1 with rfl | rfl | rfl | rfl <;> exact absurd q (by simp [qMod])) (fun z => by rw [z.1] at q; exact absurd q (by simp [qMod]))
/-- a thing, seen from both sides -/
def ThV (gi : GI) (t W T O : Nat) (b h : Nat → Nat) (pl : Int32) : Prop := ThC gi t W T O b ∧ ThM gi t W T O b ∧ O ≤ 5 ∧ (gi 2 t 3 = pl ∧ gi 64 0 (132 * t + 3) = pl) ∧ (pl = -1 ∨ ∃ p, p < 10 ∧ pl = n32 p) ∧ (∀ c, c < 64 → gi 30 t c = n32 (h c) ∧ gi 64 0 (132 * t + (68 + c)) = n32 (h c) ∧ h c ≤ 1) ∧ sumN h (W * T) ≤ 6
theorem thing_v {gi : GI} {n t : Nat} (h : ThingsR gi 0 n (gi 64 0)) (ht : t < n) : ∃ W T O b h pl, ThV gi t W T O b h pl := by
  obtain ⟨⟨W, T, O, b, hh, h0, h1, h2, hW, hT, hO, h3, hc, hs⟩, s1, s2⟩ := h t ht
  rw [show 6 * 0 + t = t by omega] at s1 s2
  refine ⟨W, T, O, b, hh, gi 64 0 (132 * t + 3), ⟨?_, ?_, ?_, hW, hT, fun c hc' => ?_⟩, ⟨h0, h1, h2, hW, hT, fun c hc' => (hc c hc').1⟩, hO, ⟨s1 3 (by omega), rfl⟩, h3, fun c hc' => ?_, hs⟩
  · exact (s1 0 (by omega)).trans h0
  · exact (s1 1 (by omega)).trans h1
  · exact (s1 2 (by omega)).trans h2
  · exact ⟨(s2 c hc').1.trans (hc c hc').1.1, (hc c hc').1.2⟩
  · exact ⟨(s2 c hc').2.trans (hc c hc').2.1, (hc c hc').2.1, (hc c hc').2.2⟩
