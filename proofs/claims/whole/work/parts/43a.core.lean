/-! where both stand, between the calls -/
def ThOK (K : Nat → Int32) (t W T O : Nat) (b h : Nat → Nat) : Prop := K (132 * t) = n32 W ∧ K (132 * t + 1) = n32 T ∧ K (132 * t + 2) = n32 O ∧ (1 ≤ W ∧ W ≤ 8) ∧ (1 ≤ T ∧ T ≤ 8) ∧ O ≤ 5 ∧ (K (132 * t + 3) = -1 ∨ ∃ p, p < 10 ∧ K (132 * t + 3) = n32 p) ∧ (∀ c, c < 64 → (K (132 * t + (4 + c)) = n32 (b c) ∧ b c < 10) ∧ (K (132 * t + (68 + c)) = n32 (h c) ∧ h c ≤ 1)) ∧ sumN h (W * T) ≤ 6
def ThSame (gi : GI) (r : Nat) (K : Nat → Int32) (t : Nat) : Prop := (∀ i, i < 4 → gi 2 r i = K (132 * t + i)) ∧ ∀ c, c < 64 → gi 29 r c = K (132 * t + (4 + c)) ∧ gi 30 r c = K (132 * t + (68 + c))
def TermOK (K : Nat → Int32) : Prop := (∃ a, a ≤ 64 ∧ K 792 = n32 a) ∧ (∃ a, a ≤ 99 ∧ K 793 = n32 a) ∧ (∃ a, 1 ≤ a ∧ a ≤ 9 ∧ K 794 = n32 a) ∧ ∃ a, a ≤ 999 ∧ K 795 = n32 a
def BooksN (gi : GI) (r n m : Nat) (K : Nat → Int32) : Prop := n ≤ 6 ∧ m ≤ 6 ∧ K 796 = n32 n ∧ K 797 = n32 m ∧ gi 1 r 1 = n32 n ∧ gi 1 r 3 = n32 m ∧ gi 1 r 4 = K 798 ∧ (K 798 = -1 ∨ ∃ f, f < m ∧ K 798 = n32 f) ∧ TermOK K ∧ ∀ k, k < 4 → gi 28 r k = K (792 + k)
def LawsR (gi : GI) (g : AG) (r m : Nat) (K : Nat → Int32) (Ls : Nat → List PC) : Prop := ∀ l, l < m → KLaw K l (Ls l) ∧ ∃ q, g.1 27 r l = some (4, q) ∧ q < g.2.1 4 ∧ LawObj gi g q (Ls l)
def ThingsR (gi : GI) (r n : Nat) (K : Nat → Int32) : Prop := ∀ t, t < n → (∃ W T O b h, ThOK K t W T O b h) ∧ ThSame gi (6 * r + t) K t
def BooksR (gi : GI) (g : AG) (r : Nat) (K : Nat → Int32) (Ls : Nat → List PC) : Prop := ∃ n m, BooksN gi r n m K ∧ ThingsR gi r n K ∧ LawsR gi g r m K Ls
def StatOK (gi : GI) : Prop := (gi 100 1 0 = n32 0 ∧ gi 100 1 1 = n32 0 ∧ gi 100 1 2 = n32 1 ∧ gi 100 1 3 = n32 0) ∧ gi 100 2 0 = n32 64 ∧ gi 100 2 1 = n32 99 ∧ gi 100 2 2 = n32 9 ∧ gi 100 2 3 = n32 999
def Misc (gi : GI) (len v dd : Nat) (B : Nat → Nat) : Prop := (len ≤ 400 ∧ gi 0 0 4 = n32 len ∧ gi 12 0 10 = n32 len) ∧ (gi 0 0 5 = gi 12 0 11 ∧ gi 0 0 6 = gi 12 0 6 ∧ gi 0 0 8 = gi 12 0 0) ∧ (gi 23 0 0 = gi 63 0 1 ∧ gi 23 0 1 = gi 63 0 2 ∧ gi 23 0 2 = gi 63 0 3 ∧ gi 23 0 3 = gi 63 0 5 ∧ gi 23 0 4 = gi 63 0 6) ∧ (gi 0 0 9 = n32 v ∧ gi 12 0 1 = n32 v) ∧ (dd ≤ 40 ∧ gi 0 0 11 = n32 dd ∧ gi 12 0 49 = n32 dd ∧ ∀ i, i < dd → gi 24 0 i = gi 85 0 i) ∧ TapeC gi B ∧ TapeM gi B
/-- what lies in the rows of laws is null or a law -/
def LawSlots (g : AG) : Prop := ∀ r l, l < 6 → g.1 27 r l = none ∨ ∃ q, g.1 27 r l = some (4, q)
/-- so many books, in step with their rows and things -/
def BkC (g : AG) (nb : Nat) : Prop := (g.2.1 1 = nb ∧ g.2.1 26 = nb ∧ g.2.1 27 = nb ∧ g.2.1 28 = nb) ∧ g.2.1 2 = 6 * nb ∧ g.2.1 29 = 6 * nb ∧ g.2.1 30 = 6 * nb
/-- ... and two images have not the same -/
def BkS (g : AG) : Prop := (∃ nb, 1 ≤ nb ∧ BkC g nb) ∧ ∀ r, g.1 20 0 0 = some (1, r) → ¬ g.1 20 0 1 = some (1, r)
def ImOK (gi : GI) (g : AG) (k : Nat) : Prop := (gi 66 0 k = n32 0 ∧ g.1 20 0 k = none) ∨ (gi 66 0 k = n32 1 ∧ ∃ r, (g.1 20 0 k = some (1, r) ∧ 1 ≤ r ∧ r < g.2.1 1) ∧ ∃ Ls, BooksR gi g r (fun i => gi 65 0 (5605 * k + i)) Ls)
def Images (gi : GI) (g : AG) : Prop := (LawSlots g ∧ BkS g) ∧ ∀ k, k < 2 → ImOK gi g k
def Room (g : AG) (n : Nat) : Prop := (∃ q, GN g q) ∧ g.2.2.2.1 ≤ 400 + 30 * n ∧ g.2.2.2.2 ≤ 100000 + 900 * n
def Core (n : Nat) (gi : GI) (g : AG) (Ls : Nat → List PC) : Prop := (GOK g ∧ StrOK gi g ∧ WordsOK gi ∧ StatOK gi ∧ Room g n) ∧ BooksR gi g 0 (gi 64 0) Ls ∧ Images gi g ∧ (∀ t, t < 6 → PaperInv gi t) ∧ (∃ s, s ≤ 300 * n ∧ Stamps gi s) ∧ ∃ len v dd B, v ≤ n ∧ Misc gi len v dd B
/-- what the searches keep -/
def srch (s j : Nat) : Bool := s == 8 || s == 9 || s == 10 || (Nat.ble 43 s && Nat.ble s 52) || s == 77 || (s == 12 && Nat.ble 32 j && Nat.ble j 36)
def SrSame (gi gi' : GI) : Prop := ∀ s a j, srch s j = true → gi' s a j = gi s a j
def Step (gi gi' : GI) : Prop := SrSame gi gi' ∧ ((gi' 0 0 9 = gi 0 0 9 ∧ gi' 12 0 1 = gi 12 0 1 ∧ ∀ j, gi' 64 0 j = gi 64 0 j) ∨ (gi' 0 0 9 = gi 0 0 9 + n32 1))
/-- a call on both -/
def Op (mC mM : Nat) (as : List AV) : Prop := ∀ (D n : Nat) (gi : GI) (g : AG) (Ls : Nat → List PC) (Q : Option AV → Option AV → AH → Prop), 70 ≤ D → n < 520 → Core n gi g Ls → (∀ v gi' g' Ls', Core (n + 1) gi' g' Ls' → Step gi gi' → ((gi' 0 0 9 = gi 0 0 9 + n32 1) ∨ Ls' = Ls) → Q (some (.inl v)) (some (.inl v)) (gi', g')) → ax_call D mC (.inr (.inr (some (0, 0))) :: as) (gi, g) (fun r h => ax_call D mM (.inr (.inr (some (12, 0))) :: as) h (fun r' h' => Q r r' h'))
/-! frames of the parts -/
theorem StrOK_of {gi gi' : GI} {g g' : AG} (h : StrOK gi g) (h1 : ∀ a j, gi' 101 a j = gi 101 a j) (h2 : ∀ a j, gi' 103 a j = gi 103 a j) (h3 : ∀ a j, g'.1 101 a j = g.1 101 a j) (h4 : ∀ a, g'.2.2.1 103 a = g.2.2.1 103 a) : StrOK gi' g' := by
  unfold StrOK at *
  simp only [h1, h2, h3, h4]
  exact h
theorem KLaw_of {K K' : Nat → Int32} {l : Nat} {L : List PC} (h : KLaw K l L) (hl : l < 6) (e : ∀ j, 799 ≤ j → j < 5605 → K' j = K j) : KLaw K' l L := by
  obtain ⟨c, v, N, hN, hc, h1, h2, h3⟩ := h
  refine ⟨c, v, N, hN, hc, (e _ (by omega) (by omega)).trans h1, fun i hi => ?_, h3⟩
  obtain ⟨a1, a2, a3⟩ := h2 i hi
  exact ⟨(e _ (by omega) (by omega)).trans a1, a2, fun q1 q2 => (e _ (by omega) (by omega)).trans (a3 q1 q2)⟩
theorem LawsR_of {gi gi' : GI} {g g' : AG} {r m : Nat} {K K' : Nat → Int32} {Ls : Nat → List PC} (h : LawsR gi g r m K Ls) (hm : m ≤ 6) (e : ∀ j, 799 ≤ j → j < 5605 → K' j = K j) (hs : ∀ s a j, s = 4 ∨ s = 60 ∨ s = 61 ∨ s = 62 → gi' s a j = gi s a j) (hg : GF g g') : LawsR gi' g' r m K' Ls := by
  intro l hl
  obtain ⟨h1, q, h2, h3, h4⟩ := h l hl
  refine ⟨KLaw_of h1 (by omega) e, q, ?_, ?_, LawObj_fr h4 (fun j => hs 4 q j (by omega)) (fun j => hs 60 q j (by omega)) (fun j => hs 61 q j (by omega)) (fun a j => hs 62 a j (by omega)) hg⟩
  · rw [hg.1 27 r l (by decide) (by decide) (by decide), h2]
  · rw [hg.2.2]
    exact h3
theorem ThOK_of {K K' : Nat → Int32} {t W T O : Nat} {b h : Nat → Nat} (hh : ThOK K t W T O b h) (e : ∀ j, 132 * t ≤ j → j < 132 * t + 132 → K' j = K j) : ThOK K' t W T O b h := by
  obtain ⟨h0, h1, h2, hW, hT, hO, h3, hc, hs⟩ := hh
  refine ⟨(e _ (by omega) (by omega)).trans h0, (e _ (by omega) (by omega)).trans h1, (e _ (by omega) (by omega)).trans h2, hW, hT, hO, ?_, fun c hc' => ?_, hs⟩
  · rw [e _ (by omega) (by omega)]
    exact h3
  · rw [e _ (by omega) (by omega), e (132 * t + (68 + c)) (by omega) (by omega)]
    exact hc c hc'
theorem ThSame_of {gi gi' : GI} {r t : Nat} {K K' : Nat → Int32} (hh : ThSame gi r K t) (e : ∀ j, 132 * t ≤ j → j < 132 * t + 132 → K' j = K j) (h2 : ∀ j, gi' 2 r j = gi 2 r j) (h29 : ∀ j, gi' 29 r j = gi 29 r j) (h30 : ∀ j, gi' 30 r j = gi 30 r j) : ThSame gi' r K' t := by
  refine ⟨fun i hi => ?_, fun c hc => ?_⟩
  · rw [h2, e _ (by omega) (by omega)]
    exact hh.1 i hi
  · rw [h29, h30, e _ (by omega) (by omega), e (132 * t + (68 + c)) (by omega) (by omega)]
    exact hh.2 c hc
theorem ThingsR_of {gi gi' : GI} {r n : Nat} {K K' : Nat → Int32} (h : ThingsR gi r n K) (hn : n ≤ 6) (e : ∀ j, j < 792 → K' j = K j) (hs : ∀ s a j, s = 2 ∨ s = 29 ∨ s = 30 → gi' s a j = gi s a j) : ThingsR gi' r n K' := by
  intro t ht
  obtain ⟨⟨W, T, O, b, hh, h1⟩, h2⟩ := h t ht
  exact ⟨⟨W, T, O, b, hh, ThOK_of h1 (fun j _ q => e j (by omega))⟩, ThSame_of h2 (fun j _ q => e j (by omega)) (fun j => hs 2 _ j (by omega)) (fun j => hs 29 _ j (by omega)) (fun j => hs 30 _ j (by omega))⟩
theorem TermOK_of {K K' : Nat → Int32} (h : TermOK K) (e : ∀ j, 792 ≤ j → j < 796 → K' j = K j) : TermOK K' := by
  unfold TermOK at *
  rw [e 792 (by omega) (by omega), e 793 (by omega) (by omega), e 794 (by omega) (by omega), e 795 (by omega) (by omega)]
  exact h
theorem BooksN_of {gi gi' : GI} {r n m : Nat} {K K' : Nat → Int32} (h : BooksN gi r n m K) (e : ∀ j, 792 ≤ j → j < 799 → K' j = K j) (hs : ∀ s j, s = 1 ∨ s = 28 → gi' s r j = gi s r j) : BooksN gi' r n m K' := by
  obtain ⟨a1, a2, a3, a4, a5, a6, a7, a8, a9, a10⟩ := h
  refine ⟨a1, a2, (e _ (by omega) (by omega)).trans a3, (e _ (by omega) (by omega)).trans a4, (hs 1 1 (by omega)).trans a5, (hs 1 3 (by omega)).trans a6, ?_, ?_, TermOK_of a9 (fun j q1 q2 => e j q1 (by omega)), fun k hk => ?_⟩
  · rw [hs 1 4 (by omega), e 798 (by omega) (by omega), a7]
  · rw [e 798 (by omega) (by omega)]
    exact a8
  · rw [hs 28 k (by omega), e _ (by omega) (by omega), a10 k hk]
/-- books whose row and things are untouched -/
theorem BooksR_of {gi gi' : GI} {g g' : AG} {r : Nat} {K K' : Nat → Int32} {Ls : Nat → List PC} (h : BooksR gi g r K Ls) (e : ∀ j, j < 5605 → K' j = K j) (hs : ∀ s a j, s = 1 ∨ s = 28 ∨ s = 2 ∨ s = 29 ∨ s = 30 ∨ s = 4 ∨ s = 60 ∨ s = 61 ∨ s = 62 → gi' s a j = gi s a j) (hg : GF g g') : BooksR gi' g' r K' Ls := by
  obtain ⟨n, m, h1, h2, h3⟩ := h
  exact ⟨n, m, BooksN_of h1 (fun j _ q => e j (by omega)) (fun s j q => hs s r j (by omega)), ThingsR_of h2 h1.1 (fun j q => e j (by omega)) (fun s a j q => hs s a j (by omega)), LawsR_of h3 h1.2.1 (fun j _ q => e j q) (fun s a j q => hs s a j (by omega)) hg⟩
theorem BkS_of {g g' : AG} (h : BkS g) (h20 : ∀ j, g'.1 20 0 j = g.1 20 0 j) (hn : ∀ s, s = 1 ∨ s = 2 ∨ (26 ≤ s ∧ s ≤ 30) → g'.2.1 s = g.2.1 s) : BkS g' := by
  obtain ⟨⟨nb, h1, h2⟩, h3⟩ := h
  refine ⟨⟨nb, h1, ?_⟩, ?_⟩
  · unfold BkC at *
    rw [hn 1 (by omega), hn 26 (by omega), hn 27 (by omega), hn 28 (by omega), hn 2 (by omega), hn 29 (by omega), hn 30 (by omega)]
    exact h2
  · rw [h20, h20]
    exact h3
theorem ImOK_of {gi gi' : GI} {g g' : AG} {k : Nat} (h : ImOK gi g k) (h66 : gi' 66 0 k = gi 66 0 k) (h20 : g'.1 20 0 k = g.1 20 0 k) (h1 : g.2.1 1 ≤ g'.2.1 1) (hB : ∀ r Ls, 1 ≤ r → r < g.2.1 1 → g.1 20 0 k = some (1, r) → BooksR gi g r (fun i => gi 65 0 (5605 * k + i)) Ls → BooksR gi' g' r (fun i => gi' 65 0 (5605 * k + i)) Ls) : ImOK gi' g' k := by
  rcases h with ⟨a, b⟩ | ⟨a, r, ⟨b1, b2, b3⟩, Ls, b4⟩
  · exact Or.inl ⟨h66.trans a, h20.trans b⟩
  · exact Or.inr ⟨h66.trans a, r, ⟨h20.trans b1, b2, Nat.lt_of_lt_of_le b3 h1⟩, Ls, hB r Ls b2 b3 b1 b4⟩
theorem Images_of {gi gi' : GI} {g g' : AG} (h : Images gi g) (hs : ∀ s a j, s = 66 ∨ s = 65 ∨ s = 1 ∨ s = 28 ∨ s = 2 ∨ s = 29 ∨ s = 30 ∨ s = 4 ∨ s = 60 ∨ s = 61 ∨ s = 62 → gi' s a j = gi s a j) (hg : GF g g') : Images gi' g' := by
  have h20 : ∀ j, g'.1 20 0 j = g.1 20 0 j := fun j => hg.1 20 0 j (by decide) (by decide) (by decide)
  refine ⟨⟨fun r l q => by rw [hg.1 27 r l (by decide) (by decide) (by decide)]; exact h.1.1 r l q, BkS_of h.1.2 h20 (fun s _ => by rw [hg.2.2])⟩, fun k hk => ?_⟩
  exact ImOK_of (h.2 k hk) (hs 66 0 k (by omega)) (h20 k) (by rw [hg.2.2]; exact Nat.le_refl _) (fun r Ls _ _ _ hB => BooksR_of hB (fun j _ => hs 65 0 _ (by omega)) (fun s a j q => hs s a j (by omega)) hg)
theorem PaperInv_of {gi gi' : GI} {t : Nat} (h : PaperInv gi t) (h3 : ∀ j, gi' 3 t j = gi 3 t j) (h59 : ∀ a j, gi' 59 a j = gi 59 a j) : PaperInv gi' t := by
  unfold PaperInv PapW at *
  simp only [h3, h59]
  exact h
theorem Stamps_of {gi gi' : GI} {s : Nat} (h : Stamps gi s) (h7 : gi' 7 0 4 = gi 7 0 4) (h39 : ∀ j, gi' 39 0 j = gi 39 0 j) : Stamps gi' s := by
  unfold Stamps at *
  simp only [h7, h39]
  exact h
theorem Room_of {g g' : AG} {n : Nat} (h : Room g n) (e : g'.2 = g.2) : Room g' (n + 1) := by
  obtain ⟨⟨q, hq⟩, h2, h3⟩ := h
  refine ⟨⟨q, ?_⟩, ?_, ?_⟩
  · unfold GN at *
    rw [e]
    exact hq
  · rw [e]
    omega
  · rw [e]
    omega
