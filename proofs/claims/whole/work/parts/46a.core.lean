/-! calls that change what stands: what is left of it -/
def FrI (gi gi' : GI) : Prop := ∀ s a j, (s = 100 ∨ s = 101 ∨ s = 103 ∨ s = 67 ∨ s = 66 ∨ s = 65 ∨ s = 4 ∨ s = 60 ∨ s = 61 ∨ s = 62 ∨ ((s = 1 ∨ s = 28) ∧ 1 ≤ a) ∨ ((s = 2 ∨ s = 29 ∨ s = 30) ∧ 6 ≤ a)) → gi' s a j = gi s a j
theorem ThingsR_fr {gi gi' : GI} {r n : Nat} {K K' : Nat → Int32} (h : ThingsR gi r n K) (hn : n ≤ 6) (e : ∀ j, j < 792 → K' j = K j) (hs : ∀ s a j, s = 2 ∨ s = 29 ∨ s = 30 → 6 * r ≤ a → a < 6 * r + 6 → gi' s a j = gi s a j) : ThingsR gi' r n K' := by
  intro t ht
  obtain ⟨⟨W, T, O, b, hh, h1⟩, h2⟩ := h t ht
  exact ⟨⟨W, T, O, b, hh, ThOK_of h1 (fun j _ q => e j (by omega))⟩, ThSame_of h2 (fun j _ q => e j (by omega)) (fun j => hs 2 _ j (by omega) (by omega) (by omega)) (fun j => hs 29 _ j (by omega) (by omega) (by omega)) (fun j => hs 30 _ j (by omega) (by omega) (by omega))⟩
theorem BooksR_fr {gi gi' : GI} {g g' : AG} {r : Nat} {K K' : Nat → Int32} {Ls : Nat → List PC} (h : BooksR gi g r K Ls) (e : ∀ j, j < 5605 → K' j = K j) (h1 : ∀ s j, s = 1 ∨ s = 28 → gi' s r j = gi s r j) (h2 : ∀ s a j, s = 2 ∨ s = 29 ∨ s = 30 → 6 * r ≤ a → a < 6 * r + 6 → gi' s a j = gi s a j) (h3 : ∀ s a j, s = 4 ∨ s = 60 ∨ s = 61 ∨ s = 62 → gi' s a j = gi s a j) (hg : GF g g') : BooksR gi' g' r K' Ls := by
  obtain ⟨n, m, q1, q2, q3⟩ := h
  exact ⟨n, m, BooksN_of q1 (fun j _ q => e j (by omega)) h1, ThingsR_fr q2 q1.1 (fun j q => e j (by omega)) h2, LawsR_of q3 q1.2.1 (fun j _ q => e j q) h3 hg⟩
theorem Images_fr {gi gi' : GI} {g g' : AG} (h : Images gi g) (hf : FrI gi gi') (hg : GF g g') : Images gi' g' := by
  have h20 : ∀ j, g'.1 20 0 j = g.1 20 0 j := fun j => hg.1 20 0 j (by decide) (by decide) (by decide)
  refine ⟨⟨fun r l q => by rw [hg.1 27 r l (by decide) (by decide) (by decide)]; exact h.1.1 r l q, BkS_of h.1.2 h20 (fun s _ => by rw [hg.2.2])⟩, fun k hk => ?_⟩
  exact ImOK_of (h.2 k hk) (hf 66 0 k (by omega)) (h20 k) (by rw [hg.2.2]; exact Nat.le_refl _) (fun r Ls hr _ _ hB => BooksR_fr hB (fun j _ => hf 65 0 _ (by omega)) (fun s j q => hf s _ j (by omega)) (fun s a j q q1 q2 => hf s a j (by omega)) (fun s a j q => hf s a j (by omega)) hg)
theorem Core_mk {n : Nat} {gi gi' : GI} {g g' : AG} {Ls Ls' : Nat → List PC} (h : Core n gi g Ls) (hf : FrI gi gi') (hg : GF g g') (hB : BooksR gi' g' 0 (gi' 64 0) Ls') (hP : ∀ t, t < 6 → PaperInv gi' t) (hS : ∃ s, s ≤ 300 * (n + 1) ∧ Stamps gi' s) (hM : ∃ len v dd B, v ≤ n + 1 ∧ Misc gi' len v dd B) : Core (n + 1) gi' g' Ls' := by
  obtain ⟨⟨hG, hSt, hW, hSs, hR⟩, -, hI, -, -, -⟩ := h
  refine ⟨⟨hg.2.1, StrOK_of hSt (fun a j => hf 101 a j (by omega)) (fun a j => hf 103 a j (by omega)) (fun a j => hg.1 101 a j (by decide) (by decide) (by decide)) (fun a => by rw [hg.2.2]), fun j hj => (hf 67 0 j (by omega)).trans (hW j hj), ?_, Room_of hR hg.2.2⟩, hB, Images_fr hI hf hg, hP, hS, hM⟩
  unfold StatOK at *
  rw [hf 100 1 0 (by omega), hf 100 1 1 (by omega), hf 100 1 2 (by omega), hf 100 1 3 (by omega), hf 100 2 0 (by omega), hf 100 2 1 (by omega), hf 100 2 2 (by omega), hf 100 2 3 (by omega)]
  exact hSs
/-- books, tape and small numbers alone may change -/
def FrB (gi gi' : GI) : Prop := ∀ s a j, s ≠ 64 → ¬ (s = 0 ∧ a = 0 ∧ 4 ≤ j) → ¬ (s = 12 ∧ a = 0 ∧ (j < 28 ∨ 42 ≤ j)) → ¬ ((s = 1 ∨ s = 28) ∧ a = 0) → ¬ ((s = 2 ∨ s = 29 ∨ s = 30) ∧ a < 6) → s ≠ 22 → s ≠ 23 → s ≠ 24 → s ≠ 63 → s ≠ 68 → s ≠ 69 → s ≠ 85 → gi' s a j = gi s a j
theorem FrB_I {gi gi' : GI} (h : FrB gi gi') : FrI gi gi' := fun s a j q => h s a j (by omega) (by omega) (by omega) (by omega) (by omega) (by omega) (by omega) (by omega) (by omega) (by omega) (by omega) (by omega)
theorem FrB_P {gi gi' : GI} (h : FrB gi gi') (hP : ∀ t, t < 6 → PaperInv gi t) : ∀ t, t < 6 → PaperInv gi' t := fun t ht => PaperInv_of (hP t ht) (fun j => h 3 t j (by omega) (by omega) (by omega) (by omega) (by omega) (by omega) (by omega) (by omega) (by omega) (by omega) (by omega) (by omega)) (fun a j => h 59 a j (by omega) (by omega) (by omega) (by omega) (by omega) (by omega) (by omega) (by omega) (by omega) (by omega) (by omega) (by omega))
theorem FrB_S {gi gi' : GI} {s : Nat} (h : FrB gi gi') (hS : Stamps gi s) : Stamps gi' s := Stamps_of hS (h 7 0 4 (by omega) (by omega) (by omega) (by omega) (by omega) (by omega) (by omega) (by omega) (by omega) (by omega) (by omega) (by omega)) (fun j => h 39 0 j (by omega) (by omega) (by omega) (by omega) (by omega) (by omega) (by omega) (by omega) (by omega) (by omega) (by omega) (by omega))
theorem srch_out {s j : Nat} (h : srch s j = true) : (s = 8 ∨ s = 9 ∨ s = 10 ∨ (43 ≤ s ∧ s ≤ 52) ∨ s = 77) ∨ (s = 12 ∧ 32 ≤ j ∧ j ≤ 36) := by
  unfold srch at h
  have hb : ∀ x y : Nat, Nat.ble x y = true ↔ x ≤ y := fun x y => by rw [Nat.ble_eq]
  simp only [Bool.or_eq_true, Bool.and_eq_true, beq_iff_eq, hb] at h
  omega
theorem FrB_Sr {gi gi' : GI} (h : FrB gi gi') : SrSame gi gi' := fun s a j q => by
  have q' := srch_out q
  exact h s a j (by omega) (by omega) (by omega) (by omega) (by omega) (by omega) (by omega) (by omega) (by omega) (by omega) (by omega) (by omega)
theorem Core_B {n : Nat} {gi gi' : GI} {g : AG} {Ls Ls' : Nat → List PC} (h : Core n gi g Ls) (hf : FrB gi gi') (hB : BooksR gi' g 0 (gi' 64 0) Ls') (hM : ∃ len v dd B, v ≤ n + 1 ∧ Misc gi' len v dd B) : Core (n + 1) gi' g Ls' := by
  obtain ⟨s, s1, s2⟩ := h.2.2.2.2.1
  exact Core_mk h (FrB_I hf) (GF_refl h.1.1) hB (FrB_P hf h.2.2.2.1) ⟨s, by omega, FrB_S hf s2⟩ hM
/-- the books are as they were -/
theorem BooksR_same {gi gi' : GI} {g : AG} {Ls : Nat → List PC} (hG : GOK g) (h : BooksR gi g 0 (gi 64 0) Ls) (hs : ∀ s a j, s = 64 ∨ s = 1 ∨ s = 28 ∨ s = 2 ∨ s = 29 ∨ s = 30 ∨ s = 4 ∨ s = 60 ∨ s = 61 ∨ s = 62 → gi' s a j = gi s a j) : BooksR gi' g 0 (gi' 64 0) Ls := BooksR_of h (fun j _ => hs 64 0 j (by omega)) (fun s a j q => hs s a j (by omega)) (GF_refl hG)
theorem donM_ne {gi : GI} {s : Nat} (h : s ≠ 12) (a j : Nat) : donM gi s a j = gi s a j := by
  rw [donM_at, if_neg (fun z => h z.1), if_neg (fun z => h z.1)]
theorem donC_ne {gi : GI} {s : Nat} (h : s ≠ 0) (a j : Nat) : donC gi s a j = gi s a j := by
  rw [donC_at, if_neg (fun z => h z.1), if_neg (fun z => h z.1)]
theorem refM_ne {gi : GI} {s k : Nat} {v : Int32} (h : s ≠ 12) (h2 : s ≠ 63) (a j : Nat) : refM gi v k s a j = gi s a j := by
  rw [refM_at, if_neg (fun z => h2 z.1), if_neg (fun z => h z.1)]
theorem refC_ne {gi : GI} {s k : Nat} {v : Int32} (h : s ≠ 0) (h2 : s ≠ 23) (a j : Nat) : refC gi v k s a j = gi s a j := by
  rw [refC_at, if_neg (fun z => h2 z.1), if_neg (fun z => h z.1)]
/-- refused by both -/
theorem Misc_ref {gi : GI} {len v dd : Nat} {B : Nat → Nat} {k j : Nat} {x : Int32} (h : Misc gi len v dd B) (hkj : (k = 0 ∧ j = 1) ∨ (k = 1 ∧ j = 2) ∨ (k = 2 ∧ j = 3) ∨ (k = 3 ∧ j = 5) ∨ (k = 4 ∧ j = 6)) : Misc (refM (refC gi x k) x j) len v dd B := by
  obtain ⟨⟨a1, a2, a3⟩, ⟨b1, b2, b3⟩, ⟨c0, c1, c2, c3, c4⟩, ⟨e1, e2⟩, ⟨f1, f2, f3, f4⟩, t1, t2⟩ := h
  have m0 : ∀ i, i ≠ 8 → refM (refC gi x k) x j 0 0 i = gi 0 0 i := fun i hi => by
    rw [refM_ne (by decide) (by decide), refC_at, if_neg (by omega), if_neg (by omega)]
  have m12 : ∀ i, i ≠ 0 → refM (refC gi x k) x j 12 0 i = gi 12 0 i := fun i hi => by
    rw [refM_at, if_neg (by omega), if_neg (by omega), refC_ne (by decide) (by decide)]
  have m23 : ∀ i, refM (refC gi x k) x j 23 0 i = if i = k then gi 23 0 k + n32 1 else gi 23 0 i := fun i => by
    rw [refM_ne (by decide) (by decide), refC_at]
    by_cases z : i = k
    · rw [if_pos ⟨rfl, rfl, z⟩, if_pos z]
    · rw [if_neg (by omega), if_neg (by omega), if_neg z]
  have m63 : ∀ i, refM (refC gi x k) x j 63 0 i = if i = j then gi 63 0 j + n32 1 else gi 63 0 i := fun i => by
    rw [refM_at]
    by_cases z : i = j
    · rw [if_pos ⟨rfl, rfl, z⟩, if_pos z, refC_ne (by decide) (by decide)]
    · rw [if_neg (by omega), if_neg (by omega), if_neg z, refC_ne (by decide) (by decide)]
  have x8 : refM (refC gi x k) x j 0 0 8 = x := by
    rw [refM_ne (by decide) (by decide), refC_at, if_neg (by omega), if_pos ⟨rfl, rfl, rfl⟩]
  have x0 : refM (refC gi x k) x j 12 0 0 = x := by
    rw [refM_at, if_neg (by omega), if_pos ⟨rfl, rfl, rfl⟩]
  have o : ∀ s a i, s ≠ 0 → s ≠ 12 → s ≠ 23 → s ≠ 63 → refM (refC gi x k) x j s a i = gi s a i := fun s a i h1 h2 h3 h4 => by
    rw [refM_ne h2 h4, refC_ne h1 h3]
  refine ⟨⟨a1, (m0 4 (by decide)).trans a2, (m12 10 (by decide)).trans a3⟩, ⟨?_, ?_, ?_⟩, ?_, ⟨(m0 9 (by decide)).trans e1, (m12 1 (by decide)).trans e2⟩, ⟨f1, (m0 11 (by decide)).trans f2, (m12 49 (by decide)).trans f3, fun i hi => ?_⟩, fun i hi => ?_, fun i hi => ?_⟩
  · rw [m0 5 (by decide), m12 11 (by decide), b1]
  · rw [m0 6 (by decide), m12 6 (by decide), b2]
  · rw [x8, x0]
  · rw [m23, m23, m23, m23, m23, m63, m63, m63, m63, m63]
    rcases hkj with ⟨rfl, rfl⟩ | ⟨rfl, rfl⟩ | ⟨rfl, rfl⟩ | ⟨rfl, rfl⟩ | ⟨rfl, rfl⟩ <;> simp [c0, c1, c2, c3, c4]
  · rw [o 24 0 i (by decide) (by decide) (by decide) (by decide), o 85 0 i (by decide) (by decide) (by decide) (by decide), f4 i hi]
  · rw [o 22 0 i (by decide) (by decide) (by decide) (by decide)]
    exact t1 i hi
  · rw [o 68 0 i (by decide) (by decide) (by decide) (by decide)]
    exact t2 i hi
theorem FrB_ref {gi gi' : GI} {k j : Nat} {x : Int32} (h : FrB gi gi') : FrB gi (refM (refC gi' x k) x j) := by
  intro s a i q1 q2 q3 q4 q5 q6 q7 q8 q9 q10 q11 q12
  rw [refM_at, if_neg (by omega), if_neg (by omega), refC_at, if_neg (by omega), if_neg (by omega)]
  exact h s a i q1 q2 q3 q4 q5 q6 q7 q8 q9 q10 q11 q12
theorem FrB_refl (gi : GI) : FrB gi gi := fun _ _ _ _ _ _ _ _ _ _ _ _ _ _ _ => rfl
theorem ref_cnt (gi : GI) (k j : Nat) (x : Int32) : refM (refC gi x k) x j 0 0 9 = gi 0 0 9 ∧ refM (refC gi x k) x j 12 0 1 = gi 12 0 1 ∧ ∀ i, refM (refC gi x k) x j 64 0 i = gi 64 0 i := by
  refine ⟨?_, ?_, fun i => ?_⟩
  · rw [refM_ne (by decide) (by decide), refC_at, if_neg (by omega), if_neg (by omega)]
  · rw [refM_at, if_neg (by omega), if_neg (by omega), refC_ne (by decide) (by decide)]
  · rw [refM_ne (by decide) (by decide), refC_ne (by decide) (by decide)]
/-- refused, after what leaves books and counters alone -/
theorem ref_end {n k j : Nat} {x : Int32} {gi gi1 : GI} {g : AG} {Ls : Nat → List PC} {Q : Option AV → Option AV → AH → Prop} (hC : Core n gi g Ls) (hQ : ∀ v gi' g' Ls', Core (n + 1) gi' g' Ls' → Step gi gi' → ((gi' 0 0 9 = gi 0 0 9 + n32 1) ∨ Ls' = Ls) → Q (some (.inl v)) (some (.inl v)) (gi', g')) (hf : FrB gi gi1) (h64 : ∀ s a i, s = 64 ∨ s = 1 ∨ s = 28 ∨ s = 2 ∨ s = 29 ∨ s = 30 → gi1 s a i = gi s a i) (h9 : gi1 0 0 9 = gi 0 0 9) (h1 : gi1 12 0 1 = gi 12 0 1) (hM : ∃ len v dd B, v ≤ n + 1 ∧ Misc gi1 len v dd B) (hkj : (k = 0 ∧ j = 1) ∨ (k = 1 ∧ j = 2) ∨ (k = 2 ∧ j = 3) ∨ (k = 3 ∧ j = 5) ∨ (k = 4 ∧ j = 6)) : Q (some (.inl x)) (some (.inl x)) (refM (refC gi1 x k) x j, g) := by
  obtain ⟨e1, e2, e3⟩ := ref_cnt gi1 k j x
  obtain ⟨len, v, dd, B, hv, hM⟩ := hM
  refine hQ x _ g Ls (Core_B hC (FrB_ref hf) ?_ ⟨len, v, dd, B, hv, Misc_ref hM hkj⟩) ⟨FrB_Sr (FrB_ref hf), Or.inl ⟨e1.trans h9, e2.trans h1, fun i => (e3 i).trans (h64 64 0 i (by omega))⟩⟩ (Or.inr rfl)
  refine BooksR_same hC.1.1 hC.2.1 (fun s a i q => ?_)
  rw [refM_ne (by omega) (by omega), refC_ne (by omega) (by omega)]
  by_cases z : s = 4 ∨ s = 60 ∨ s = 61 ∨ s = 62
  · exact hf s a i (by omega) (by omega) (by omega) (by omega) (by omega) (by omega) (by omega) (by omega) (by omega) (by omega) (by omega) (by omega)
  · exact h64 s a i (by omega)
theorem ref_end0 {n k j : Nat} {x : Int32} {gi : GI} {g : AG} {Ls : Nat → List PC} {Q : Option AV → Option AV → AH → Prop} (hC : Core n gi g Ls) (hQ : ∀ v gi' g' Ls', Core (n + 1) gi' g' Ls' → Step gi gi' → ((gi' 0 0 9 = gi 0 0 9 + n32 1) ∨ Ls' = Ls) → Q (some (.inl v)) (some (.inl v)) (gi', g')) (hkj : (k = 0 ∧ j = 1) ∨ (k = 1 ∧ j = 2) ∨ (k = 2 ∧ j = 3) ∨ (k = 3 ∧ j = 5) ∨ (k = 4 ∧ j = 6)) : Q (some (.inl x)) (some (.inl x)) (refM (refC gi x k) x j, g) := by
  obtain ⟨len, v, dd, B, hv, hM⟩ := hC.2.2.2.2.2
  exact ref_end hC hQ (FrB_refl gi) (fun _ _ _ _ => rfl) rfl rfl ⟨len, v, dd, B, by omega, hM⟩ hkj
/-- only the books (0) and their row -/
def FrK (gi gi' : GI) : Prop := ∀ s a j, s ≠ 64 → ¬ ((s = 1 ∨ s = 28) ∧ a = 0) → ¬ ((s = 2 ∨ s = 29 ∨ s = 30) ∧ a < 6) → gi' s a j = gi s a j
theorem FrK_refl (gi : GI) : FrK gi gi := fun _ _ _ _ _ _ => rfl
theorem FrK_wI {gi gi' : GI} {s a j : Nat} {v : Int32} (h : FrK gi gi') (hs : s = 64 ∨ ((s = 1 ∨ s = 28) ∧ a = 0) ∨ ((s = 2 ∨ s = 29 ∨ s = 30) ∧ a < 6)) : FrK gi (ax_wI gi' s a j v) := by
  intro s' a' j' q1 q2 q3
  rw [wI_at, if_neg (by omega)]
  exact h s' a' j' q1 q2 q3
theorem FrK_row {gi gi' : GI} {s a n : Nat} {f : Nat → Int32} (h : FrK gi gi') (hs : s = 64 ∨ ((s = 1 ∨ s = 28) ∧ a = 0) ∨ ((s = 2 ∨ s = 29 ∨ s = 30) ∧ a < 6)) : FrK gi (rowF gi' s a n f) := by
  intro s' a' j' q1 q2 q3
  rw [rowF_at, if_neg (by omega)]
  exact h s' a' j' q1 q2 q3
theorem FrB_dd {gi gi1 gi2 : GI} (h1 : FrB gi gi1) (h2 : FrK (donC gi1) gi2) : FrB gi (donM gi2) := by
  intro s a j q1 q2 q3 q4 q5 q6 q7 q8 q9 q10 q11 q12
  rw [donM_at, if_neg (by omega), if_neg (by omega), h2 s a j q1 q4 q5, donC_at, if_neg (by omega), if_neg (by omega)]
  exact h1 s a j q1 q2 q3 q4 q5 q6 q7 q8 q9 q10 q11 q12
theorem FrB_K {gi gi1 gi2 : GI} (h1 : FrB gi gi1) (h2 : FrK gi1 gi2) : FrB gi gi2 := by
  intro s a j q1 q2 q3 q4 q5 q6 q7 q8 q9 q10 q11 q12
  rw [h2 s a j q1 q4 q5]
  exact h1 s a j q1 q2 q3 q4 q5 q6 q7 q8 q9 q10 q11 q12
theorem Misc_K {gi gi1 : GI} {len v dd : Nat} {B : Nat → Nat} (h : Misc gi len v dd B) (f : ∀ s a j, s = 0 ∨ s = 12 ∨ s = 23 ∨ s = 63 ∨ s = 24 ∨ s = 85 ∨ s = 22 ∨ s = 68 → gi1 s a j = gi s a j) : Misc gi1 len v dd B := by
  obtain ⟨⟨a1, a2, a3⟩, ⟨b1, b2, b3⟩, ⟨c0, c1, c2, c3, c4⟩, ⟨e1, e2⟩, ⟨f1, f2, f3, f4⟩, t1, t2⟩ := h
  refine ⟨⟨a1, (f 0 0 4 (by omega)).trans a2, (f 12 0 10 (by omega)).trans a3⟩, ⟨?_, ?_, ?_⟩, ⟨?_, ?_, ?_, ?_, ?_⟩, ⟨(f 0 0 9 (by omega)).trans e1, (f 12 0 1 (by omega)).trans e2⟩, ⟨f1, (f 0 0 11 (by omega)).trans f2, (f 12 0 49 (by omega)).trans f3, fun i hi => ?_⟩, fun i hi => ?_, fun i hi => ?_⟩
  · rw [f 0 0 5 (by omega), f 12 0 11 (by omega), b1]
  · rw [f 0 0 6 (by omega), f 12 0 6 (by omega), b2]
  · rw [f 0 0 8 (by omega), f 12 0 0 (by omega), b3]
  · rw [f 23 0 _ (by omega), f 63 0 _ (by omega), c0]
  · rw [f 23 0 _ (by omega), f 63 0 _ (by omega), c1]
  · rw [f 23 0 _ (by omega), f 63 0 _ (by omega), c2]
  · rw [f 23 0 _ (by omega), f 63 0 _ (by omega), c3]
  · rw [f 23 0 _ (by omega), f 63 0 _ (by omega), c4]
  · rw [f 24 0 i (by omega), f 85 0 i (by omega), f4 i hi]
  · rw [f 22 0 i (by omega)]
    exact t1 i hi
  · rw [f 68 0 i (by omega)]
    exact t2 i hi
theorem Misc_dd {gi gi2 : GI} {len v dd : Nat} {B : Nat → Nat} (h : Misc gi len v dd B) (h2 : FrK (donC gi) gi2) : Misc (donM gi2) len (v + 1) dd B := by
  obtain ⟨⟨a1, a2, a3⟩, ⟨b1, b2, b3⟩, ⟨c0, c1, c2, c3, c4⟩, ⟨e1, e2⟩, ⟨f1, f2, f3, f4⟩, t1, t2⟩ := h
  have k : ∀ s a j, s = 0 ∨ s = 12 ∨ s = 23 ∨ s = 63 ∨ s = 24 ∨ s = 85 ∨ s = 22 ∨ s = 68 → gi2 s a j = donC gi s a j := fun s a j q => h2 s a j (by omega) (by omega) (by omega)
  have m0 : ∀ i, i ≠ 8 → i ≠ 9 → donM gi2 0 0 i = gi 0 0 i := fun i hi hj => by
    rw [donM_ne (by decide), k 0 0 i (by omega), donC_at, if_neg (by omega), if_neg (by omega)]
  have m12 : ∀ i, i ≠ 0 → i ≠ 1 → donM gi2 12 0 i = gi 12 0 i := fun i hi hj => by
    rw [donM_at, if_neg (by omega), if_neg (by omega), k 12 0 i (by omega), donC_ne (by decide)]
  have o : ∀ s a i, s = 23 ∨ s = 63 ∨ s = 24 ∨ s = 85 ∨ s = 22 ∨ s = 68 → donM gi2 s a i = gi s a i := fun s a i q => by
    rw [donM_ne (by omega), k s a i (by omega), donC_ne (by omega)]
  have x8 : donM gi2 0 0 8 = n32 0 := by
    rw [donM_ne (by decide), k 0 0 8 (by omega), donC_at, if_neg (by omega), if_pos ⟨rfl, rfl, rfl⟩]
  have x9 : donM gi2 0 0 9 = n32 (v + 1) := by
    rw [donM_ne (by decide), k 0 0 9 (by omega), donC_at, if_pos ⟨rfl, rfl, rfl⟩, e1, n32_add]
  have x0 : donM gi2 12 0 0 = n32 0 := by
    rw [donM_at, if_neg (by omega), if_pos ⟨rfl, rfl, rfl⟩]
  have x1 : donM gi2 12 0 1 = n32 (v + 1) := by
    rw [donM_at, if_pos ⟨rfl, rfl, rfl⟩, k 12 0 1 (by omega), donC_ne (by decide), e2, n32_add]
  refine ⟨⟨a1, (m0 4 (by decide) (by decide)).trans a2, (m12 10 (by decide) (by decide)).trans a3⟩, ⟨?_, ?_, ?_⟩, ⟨?_, ?_, ?_, ?_, ?_⟩, ⟨x9, x1⟩, ⟨f1, (m0 11 (by decide) (by decide)).trans f2, (m12 49 (by decide) (by decide)).trans f3, fun i hi => ?_⟩, fun i hi => ?_, fun i hi => ?_⟩
  · rw [m0 5 (by decide) (by decide), m12 11 (by decide) (by decide), b1]
  · rw [m0 6 (by decide) (by decide), m12 6 (by decide) (by decide), b2]
  · rw [x8, x0]
  · rw [o 23 0 _ (by omega), o 63 0 _ (by omega), c0]
  · rw [o 23 0 _ (by omega), o 63 0 _ (by omega), c1]
  · rw [o 23 0 _ (by omega), o 63 0 _ (by omega), c2]
  · rw [o 23 0 _ (by omega), o 63 0 _ (by omega), c3]
  · rw [o 23 0 _ (by omega), o 63 0 _ (by omega), c4]
  · rw [o 24 0 i (by omega), o 85 0 i (by omega), f4 i hi]
  · rw [o 22 0 i (by omega)]
    exact t1 i hi
  · rw [o 68 0 i (by omega)]
    exact t2 i hi
/-- done by both: gi1 is what the class left ahead of its done(), gi2 what the reference made of it -/
theorem don_end {n : Nat} {gi gi1 gi2 : GI} {g : AG} {Ls Ls' : Nat → List PC} {Q : Option AV → Option AV → AH → Prop} (hC : Core n gi g Ls) (hQ : ∀ v gi' g' Ls', Core (n + 1) gi' g' Ls' → Step gi gi' → ((gi' 0 0 9 = gi 0 0 9 + n32 1) ∨ Ls' = Ls) → Q (some (.inl v)) (some (.inl v)) (gi', g')) (h1 : FrB gi gi1) (h2 : FrK (donC gi1) gi2) (h9 : gi1 0 0 9 = gi 0 0 9) (hM : ∃ len v dd B, v ≤ n ∧ Misc gi1 len v dd B) (hB : BooksR gi2 g 0 (gi2 64 0) Ls') (v : Int32) : Q (some (.inl v)) (some (.inl v)) (donM gi2, g) := by
  obtain ⟨len, v', dd, B, hv, hM⟩ := hM
  have e9 : donM gi2 0 0 9 = gi 0 0 9 + n32 1 := by
    rw [donM_ne (by decide), h2 0 0 9 (by decide) (by omega) (by omega), donC_at, if_pos ⟨rfl, rfl, rfl⟩, h9]
  refine hQ v _ g Ls' (Core_B hC (FrB_dd h1 h2) ?_ ⟨len, v' + 1, dd, B, by omega, Misc_dd hM h2⟩) ⟨FrB_Sr (FrB_dd h1 h2), Or.inr e9⟩ (Or.inl e9)
  exact BooksR_same hC.1.1 hB (fun s a i q => donM_ne (by omega) a i)
/-- the same, where the class changed its books alone -/
theorem don_endK {n : Nat} {gi gi1 gi2 : GI} {g : AG} {Ls Ls' : Nat → List PC} {Q : Option AV → Option AV → AH → Prop} (hC : Core n gi g Ls) (hQ : ∀ v gi' g' Ls', Core (n + 1) gi' g' Ls' → Step gi gi' → ((gi' 0 0 9 = gi 0 0 9 + n32 1) ∨ Ls' = Ls) → Q (some (.inl v)) (some (.inl v)) (gi', g')) (h1 : FrK gi gi1) (h2 : FrK (donC gi1) gi2) (hB : BooksR gi2 g 0 (gi2 64 0) Ls') (v : Int32) : Q (some (.inl v)) (some (.inl v)) (donM gi2, g) := by
  obtain ⟨len, v', dd, B, hv, hM⟩ := hC.2.2.2.2.2
  exact don_end hC hQ (FrB_K (FrB_refl gi) h1) h2 (h1 0 0 9 (by decide) (by omega) (by omega)) ⟨len, v', dd, B, hv, Misc_K hM (fun s a j q => h1 s a j (by omega) (by omega) (by omega))⟩ hB v
/-- one thing is another one now -/
theorem Books_thing {gi gi' : GI} {g : AG} {n m t : Nat} {K K' : Nat → Int32} {Ls : Nat → List PC} (hG : GOK g) (hN : BooksN gi 0 n m K) (hT : ThingsR gi 0 n K) (hL : LawsR gi g 0 m K Ls) (eK : ∀ j, j < 5605 → ¬ (132 * t ≤ j ∧ j < 132 * t + 132) → K' j = K j) (ht : t < n) (hs : ∀ s a j, ((s = 1 ∨ s = 28) ∧ a = 0) ∨ ((s = 2 ∨ s = 29 ∨ s = 30) ∧ a ≠ t) ∨ s = 4 ∨ s = 60 ∨ s = 61 ∨ s = 62 → gi' s a j = gi s a j) {W T O : Nat} {b h : Nat → Nat} (hok : ThOK K' t W T O b h) (hsm : ThSame gi' t K' t) : BooksR gi' g 0 K' Ls := by
  have n6 := hN.1
  refine ⟨n, m, BooksN_of hN (fun j q1 q2 => eK j (by omega) (by omega)) (fun s j q => hs s 0 j (by omega)), ?_, LawsR_of hL hN.2.1 (fun j q1 q2 => eK j q2 (by omega)) (fun s a j q => hs s a j (by omega)) (GF_refl hG)⟩
  intro t' ht'
  rw [show 6 * 0 + t' = t' by omega]
  by_cases z : t' = t
  · subst z
    exact ⟨⟨W, T, O, b, h, hok⟩, hsm⟩
  · obtain ⟨⟨W', T', O', b', h', q1⟩, q2⟩ := hT t' ht'
    rw [show 6 * 0 + t' = t' by omega] at q2
    exact ⟨⟨W', T', O', b', h', ThOK_of q1 (fun j p1 p2 => eK j (by omega) (by omega))⟩, ThSame_of q2 (fun j p1 p2 => eK j (by omega) (by omega)) (fun j => hs 2 t' j (by omega)) (fun j => hs 29 t' j (by omega)) (fun j => hs 30 t' j (by omega))⟩
/-- what a view of a thing says of its row -/
theorem ThOK_v {gi : GI} {t W T O : Nat} {b h : Nat → Nat} {pl : Int32} (hv : ThV gi t W T O b h pl) : ThOK (gi 64 0) t W T O b h ∧ ThSame gi t (gi 64 0) t := by
  obtain ⟨hc, hm, hO, ⟨hp1, hp2⟩, hp3, hh, hs⟩ := hv
  refine ⟨⟨hm.1, hm.2.1, hm.2.2.1, hm.2.2.2.1, hm.2.2.2.2.1, hO, by rw [hp2]; exact hp3, fun c hc' => ⟨hm.2.2.2.2.2 c hc', (hh c hc').2.1, (hh c hc').2.2⟩, hs⟩, fun i hi => ?_, fun c hc' => ⟨((hc.2.2.2.2.2 c hc').1).trans ((hm.2.2.2.2.2 c hc').1).symm, ((hh c hc').1).trans ((hh c hc').2.1).symm⟩⟩
  have cs : i = 0 ∨ i = 1 ∨ i = 2 ∨ i = 3 := by omega
  rcases cs with rfl | rfl | rfl | rfl
  · exact hc.1.trans hm.1.symm
  · exact hc.2.1.trans hm.2.1.symm
  · exact hc.2.2.1.trans hm.2.2.1.symm
  · exact hp1.trans hp2.symm
