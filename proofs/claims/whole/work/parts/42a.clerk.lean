/-! the class's clerk -/
def txO (L : Option (List PC)) (e : Nat → Int) : Nat := match L with
  | none => 10
  | some l => taxL l e 10
theorem txO_le (L : Option (List PC)) (e : Nat → Int) : txO L e ≤ 999 := by
  cases L with
  | none => exact (by decide : 10 ≤ 999)
  | some l => exact taxL_le l e 10 (by omega)
def LawRef (gi : GI) (g : AG) (lw : AR) (L : Option (List PC)) : Prop := (lw = none ∧ L = none) ∨ ∃ q l, lw = some (4, q) ∧ L = some l ∧ LawObj gi g q l ∧ ∀ e, LsX e l 0
/-- only what the clerk and the searches refer to -/
def GF (g g' : AG) : Prop := (∀ s a j, s ≠ 7 → s ≠ 8 → s ≠ 9 → g'.1 s a j = g.1 s a j) ∧ GOK g' ∧ g'.2 = g.2
theorem GF_refl {g : AG} (h : GOK g) : GF g g := ⟨fun _ _ _ _ _ _ => rfl, h, rfl⟩
theorem GF_trans {a b c : AG} (h1 : GF a b) (h2 : GF b c) : GF a c := ⟨fun s i j q1 q2 q3 => (h2.1 s i j q1 q2 q3).trans (h1.1 s i j q1 q2 q3), h2.2.1, h2.2.2.trans h1.2.2⟩
theorem LawObj_fr {gi gi' : GI} {g g' : AG} {q : Nat} {l : List PC} (h : LawObj gi g q l) (h4 : ∀ j, gi' 4 q j = gi 4 q j) (h60 : ∀ j, gi' 60 q j = gi 60 q j) (h61 : ∀ j, gi' 61 q j = gi 61 q j) (h62 : ∀ a j, gi' 62 a j = gi 62 a j) (hg : GF g g') : LawObj gi' g' q l := by
  obtain ⟨h0, r1, r2, r3, r4, r5, l0, l2, l1, l4, l5, hc, h12, h400⟩ := h
  have e : ∀ j, g'.1 4 q j = g.1 4 q j := fun j => hg.1 4 q j (by decide) (by decide) (by decide)
  refine ⟨(h4 0).trans h0, (e _).trans r1, (e _).trans r2, (e _).trans r3, (e _).trans r4, (e _).trans r5, ?_, ?_, ?_, ?_, ?_, CsAt_congr (fun j => h62 _ j) (fun j => h60 j) (fun j => h61 j) (fun j => h62 _ j) (fun j => h62 _ j) hc, h12, h400⟩
  · rw [hg.2.2]; exact l0
  · rw [hg.2.2]; exact l2
  · rw [hg.2.2]; exact l1
  · rw [hg.2.2]; exact l4
  · rw [hg.2.2]; exact l5
theorem LawRef_fr {gi gi' : GI} {g g' : AG} {lw : AR} {L : Option (List PC)} (h : LawRef gi g lw L) (hs : ∀ s a j, s = 4 ∨ s = 60 ∨ s = 61 ∨ s = 62 → gi' s a j = gi s a j) (hg : GF g g') : LawRef gi' g' lw L := by
  rcases h with h | ⟨q, l, h1, h2, h3, h4⟩
  · exact Or.inl h
  · exact Or.inr ⟨q, l, h1, h2, LawObj_fr h3 (fun j => hs 4 q j (by omega)) (fun j => hs 60 q j (by omega)) (fun j => hs 61 q j (by omega)) (fun a j => hs 62 a j (by omega)) hg, h4⟩
def keyN (l o u : Nat) : Nat := (l * 65 + o) * 11 + u
theorem keyN_lt {l o u : Nat} (h1 : l < 6) (h2 : o ≤ 64) (h3 : u ≤ 10) : keyN l o u < 4290 := by unfold keyN; omega
theorem keyN_inj {l o u l' o' u' : Nat} (h2 : o ≤ 64) (h3 : u ≤ 10) (h2' : o' ≤ 64) (h3' : u' ≤ 10) (h : keyN l o u = keyN l' o' u') : l = l' ∧ o = o' ∧ u = u' := by
  unfold keyN at h
  omega
def Stamps (gi : GI) (s : Nat) : Prop := gi 7 0 4 = n32 s ∧ s < 100000000 ∧ ∀ k, k < 4290 → ∃ x, x ≤ s ∧ gi 39 0 k = n32 x
def ClerkOn (gi : GI) (g : AG) (t W T O dy sl s : Nat) (lw : AR) (L : Option (List PC)) : Prop := (g.1 7 0 1 = some (3, t) ∧ g.1 7 0 2 = lw) ∧ LawRef gi g lw L ∧ gi 7 0 3 = n32 sl ∧ Stamps gi s ∧ (gi 41 0 2 = n32 W ∧ gi 41 0 3 = n32 T ∧ gi 41 0 4 = n32 (W * T) ∧ gi 41 0 5 = n32 O ∧ gi 41 0 6 = n32 dy) ∧ (W ≤ 8 ∧ T ≤ 8 ∧ O ≤ 1000 ∧ dy ≤ 1000 ∧ sl ≤ 1000) ∧ ∀ l o u, l < 6 → o ≤ 64 → u ≤ 10 → gi 39 0 (keyN l o u) = n32 s → gi 39 0 (4290 + keyN l o u) = n32 (txO L (envF l o W T O dy u))
def clkMod (s j : Nat) : Bool := s == 39 || s == 40 || s == 41 || s == 42 || (s == 5 && (j == 2 || j == 3))
theorem Fr_clk {gi gi' : GI} (h : Fr xMod gi gi') : Fr clkMod gi gi' := Fr_mono h (fun s j q => by
  unfold clkMod at q
  unfold xMod
  simp only [Bool.or_eq_false_iff] at q ⊢
  exact ⟨q.2, q.1.2⟩)
theorem c_taxBy {d t W T O dy sl s l o u : Nat} {lw : AR} {L : Option (List PC)} {gi : GI} {g : AG} {Q : Option AV → AH → Prop} (hG : GOK g) (h : ClerkOn gi g t W T O dy sl s lw L) (hl : l < 6) (ho : o ≤ 64) (hu : u ≤ 10)
    (hq : ∀ gi', Fr clkMod gi gi' → ClerkOn gi' g t W T O dy sl s lw L → Q (some (.inl (n32 (txO L (envF l o W T O dy u))))) (gi', g)) :
    ax_call (d + 4) m_Clerk_taxBy [.inr (.inr (some (7, 0))), .inl (n32 l), .inl (n32 o), .inl (n32 u)] (gi, g) Q := by
  have h0 := h
  obtain ⟨⟨r1, r2⟩, hL, h73, ⟨h74, hs, hst⟩, ⟨f2, f3, f4, f5, f6⟩, ⟨bW, bT, bO, bd, bs⟩, hcache⟩ := h
  have hk := keyN_lt hl ho hu
  have h64 := wt64 bW bT
  have ek : ((n32 l * n32 65) + n32 o) * n32 11 + n32 u = n32 (keyN l o u) := by
    simp only [n32_mul, n32_add]
    rfl
  have e1 : n32 4290 - n32 1 = n32 4289 := by decide
  rw [e_Clerk_taxBy]
  simp (disch := omega) only [b_Clerk_taxBy_0, b_Clerk_taxBy_26, G_0_0 hG, G_0_1 hG, G_0_2 hG, G_0_3 hG, G_0_7 hG, G_0_10 hG, G_0_12 hG, G_0_13 hG, G_0_14 hG, G_0_15 hG, G_0_16 hG, G_0_17 hG, G_1_0 hG, G_1_2 hG, G_1_5 hG, G_2_4 hG, G_2_5 hG, G_3_5 hG, G_3_6 hG, G_3_7 hG, G_3_8 hG, G_3_9 hG, G_5_0 hG, G_5_1 hG, G_6_0 hG, G_6_1 hG, G_6_2 hG, G_6_9 hG, G_6_10 hG, G_6_11 hG, G_6_12 hG, G_6_13 hG, G_7_0 hG, G_7_5 hG, G_8_8 hG, G_8_9 hG, G_9_8 hG, G_9_9 hG, G_10_7 hG, G_10_8 hG, G_10_9 hG, G_10_10 hG, G_10_11 hG, G_11_0 hG, G_12_2 hG, G_12_3 hG, G_12_4 hG, G_12_5 hG, G_12_7 hG, G_12_8 hG, G_12_9 hG, G_12_12 hG, G_12_13 hG, G_12_14 hG, G_12_22 hG, G_12_23 hG, G_12_29 hG, G_12_30 hG, G_12_31 hG, G_12_37 hG, G_12_38 hG, G_12_39 hG, G_12_40 hG, G_12_41 hG, G_12_43 hG, G_12_46 hG, G_12_47 hG, G_12_48 hG, G_25 hG, G_26 hG, G_47 hG, G_58 hG, ek, e1, c_S_within, win_T (Nat.zero_le (keyN l o u)) (by omega : keyN l o u ≤ 4289), ax_psh_none, ax_psh_some, true_and, and_true, and_false, false_and, not_true_eq_false, not_false_eq_true, true_imp_iff, false_imp_iff, imp_self, or_true, true_or, or_false, false_or, and_self, ite_true, ite_false, if_true, if_false]
  rw [b_Clerk_taxBy_31]
  refine ⟨G_7_5 hG 0, n32_in hk (by omega), ?_⟩
  obtain ⟨x, hx, ex⟩ := hst (keyN l o u) hk
  have htx := txO_le L (envF l o W T O dy u)
  rw [n32_clamp (by omega), h74, ex, nE_cmp (by omega) (by omega)]
  refine ⟨fun e => ?_, fun e => ?_⟩
  · rw [b_Clerk_taxBy_109]
    refine ⟨G_7_5 hG 0, n32_in hk (by omega), ?_⟩
    rw [n32_clamp (by omega), hcache l o u hl ho hu (ex.trans e), ex, nE_read (by omega) htx]
    exact hq gi (Fr_refl _ _) h0
  · have c0 : (n32 0).toNatClampNeg = 0 := by decide
    have c1 : (n32 1).toNatClampNeg = 1 := by decide
    have c7 : (n32 7).toNatClampNeg = 7 := by decide
    have e740 : ax_wI (ax_wI (ax_wI gi 41 0 0 (n32 l)) 41 0 1 (n32 o)) 41 0 7 (n32 u) 7 0 4 = n32 s := by simp [wI_at, h74]
    rw [b_Clerk_taxBy_50, c0, c1, c7, r2]
    refine ⟨G_7_0 hG 0, G_5_0 hG 0, n32_in (by omega) (by omega), G_7_0 hG 0, G_5_0 hG 0, n32_in (by omega) (by omega), G_7_0 hG 0, G_5_0 hG 0, n32_in (by omega) (by omega), G_7_5 hG 0, G_7_0 hG 0, ?_⟩
    rw [e740]
    have fr1 : Fr clkMod gi (ax_wI (ax_wI (ax_wI gi 41 0 0 (n32 l)) 41 0 1 (n32 o)) 41 0 7 (n32 u)) := Fr_wI (Fr_wI (Fr_wI (Fr_refl _ _) rfl) rfl) rfl
    have facts : ∀ j, j < 8 → ax_wI (ax_wI (ax_wI gi 41 0 0 (n32 l)) 41 0 1 (n32 o)) 41 0 7 (n32 u) 41 0 j = iv (envF l o W T O dy u j) ∧ Bd (envF l o W T O dy u j) := by
      intro j hj
      refine ⟨?_, envF_Bd (by omega) (by omega) bW bT bO bd (by omega) j⟩
      have cs : j = 0 ∨ j = 1 ∨ j = 2 ∨ j = 3 ∨ j = 4 ∨ j = 5 ∨ j = 6 ∨ j = 7 := by omega
      rcases cs with rfl | rfl | rfl | rfl | rfl | rfl | rfl | rfl <;> simp only [wI_at, ax_psh_none, ax_psh_some, true_and, and_true, and_false, false_and, not_true_eq_false, not_false_eq_true, true_imp_iff, false_imp_iff, imp_self, or_true, true_or, or_false, false_or, and_self, ite_true, ite_false, if_true, if_false, reduceIte, Nat.reduceEqDiff, Nat.reduceLT, Nat.reduceAdd, Nat.reduceMul, Nat.reduceSub, Nat.reduceDiv, Nat.reduceMod, Nat.reduceLeDiff, envF, iv_n, f2, f3, f4, f5, f6]
    -- the end
    have fin : ∀ gi1 : GI, Fr clkMod gi gi1 → (∀ j, gi1 39 0 j = gi 39 0 j) → (∀ j, 2 ≤ j → j ≤ 6 → gi1 41 0 j = gi 41 0 j) → ∀ o1 o2 o3, Runs (d + 3) (m_Clerk_taxBy, 106, [some (.inr (.inr (some (7, 0)))), o1, o2, o3, some (.inl (n32 (keyN l o u)))], [.inl (n32 (txO L (envF l o W T O dy u))), .inr (.inl ((n32 s).toInt64 <<< ((n32 10).toInt64 &&& 63))), .inl (n32 (keyN l o u)), .inr (.inr (some (39, 0)))]) (gi1, g) Q := by
      intro gi1 fr2 k39 k41 o1 o2 o3
      have w0 : ∀ y z, ax_wI (ax_wI gi1 39 0 (keyN l o u) y) 39 0 (4290 + keyN l o u) z 39 0 (keyN l o u) = y := fun y z => by rw [wI_at, if_neg (by omega), wI_at, if_pos ⟨rfl, rfl, rfl⟩]
      have w1 : ∀ y z, ax_wI (ax_wI gi1 39 0 (keyN l o u) y) 39 0 (4290 + keyN l o u) z 39 0 (4290 + keyN l o u) = z := fun y z => by rw [wI_at, if_pos ⟨rfl, rfl, rfl⟩]
      rw [b_Clerk_taxBy_106, nE_put htx, nE_hi (by omega) htx, nE_lo (by omega) htx, n32_clamp (by omega)]
      refine ⟨⟨n32_in hk (by omega), rfl⟩, ?_⟩
      rw [b_Clerk_taxBy_109]
      refine ⟨G_7_5 hG 0, n32_in hk (by omega), ?_⟩
      rw [n32_clamp (by omega), w0, w1, nE_read (by omega) htx]
      refine hq _ (Fr_wI (Fr_wI fr2 rfl) rfl) ⟨⟨r1, r2⟩, ?_, ?_, ⟨?_, hs, ?_⟩, ⟨?_, ?_, ?_, ?_, ?_⟩, ⟨bW, bT, bO, bd, bs⟩, ?_⟩
      · refine LawRef_fr hL (fun s' a j hs' => ?_) (GF_refl hG)
        rw [wI_at, if_neg (by omega), wI_at, if_neg (by omega)]
        rcases hs' with rfl | rfl | rfl | rfl <;> exact fr2 _ _ _ rfl
      · rw [wI_at, if_neg (by omega), wI_at, if_neg (by omega), fr2 7 0 3 rfl, h73]
      · rw [wI_at, if_neg (by omega), wI_at, if_neg (by omega), fr2 7 0 4 rfl, h74]
      · intro k hk2
        by_cases z : k = keyN l o u
        · rw [z, w0]
          exact ⟨s, Nat.le_refl _, rfl⟩
        · rw [wI_at, if_neg (by omega), wI_at, if_neg (by omega), k39]
          exact hst k hk2
      · rw [wI_at, if_neg (by omega), wI_at, if_neg (by omega), k41 2 (by omega) (by omega), f2]
      · rw [wI_at, if_neg (by omega), wI_at, if_neg (by omega), k41 3 (by omega) (by omega), f3]
      · rw [wI_at, if_neg (by omega), wI_at, if_neg (by omega), k41 4 (by omega) (by omega), f4]
      · rw [wI_at, if_neg (by omega), wI_at, if_neg (by omega), k41 5 (by omega) (by omega), f5]
      · rw [wI_at, if_neg (by omega), wI_at, if_neg (by omega), k41 6 (by omega) (by omega), f6]
      · intro l' o' u' hl' ho' hu' hst'
        have hk' := keyN_lt hl' ho' hu'
        by_cases z : keyN l' o' u' = keyN l o u
        · obtain ⟨rfl, rfl, rfl⟩ := keyN_inj ho' hu' ho hu z
          exact w1 _ _
        · rw [wI_at, if_neg (by omega), wI_at, if_neg (by omega), k39] at hst'
          rw [wI_at, if_neg (by omega), wI_at, if_neg (by omega), k39]
          exact hcache l' o' u' hl' ho' hu' hst'
    rcases hL with ⟨rfl, rfl⟩ | ⟨q, ll, rfl, rfl, hobj, hX⟩
    · rw [c_Mach_taxOf_n]
      simp only [ax_psh_none, ax_psh_some, true_and, and_true, and_false, false_and, not_true_eq_false, not_false_eq_true, true_imp_iff, false_imp_iff, imp_self, or_true, true_or, or_false, false_or, and_self, ite_true, ite_false, if_true, if_false]
      refine fin _ fr1 (fun j => by simp [wI_at]) (fun j h1 h2 => ?_) _ _ _
      have a0 : ¬ j = 0 := by omega
      have a1 : ¬ j = 1 := by omega
      have a7 : ¬ j = 7 := by omega
      simp [wI_at, a0, a1, a7]
    · have hobj2 : LawObj (ax_wI (ax_wI (ax_wI gi 41 0 0 (n32 l)) 41 0 1 (n32 o)) 41 0 7 (n32 u)) g q ll := LawObj_fr hobj (fun j => by simp [wI_at]) (fun j => by simp [wI_at]) (fun j => by simp [wI_at]) (fun a j => by simp [wI_at]) (GF_refl hG)
      refine c_Mach_taxOf hG hobj2 (hX _) facts ?_
      intro gi' fr
      simp only [ax_psh_none, ax_psh_some, true_and, and_true, and_false, false_and, not_true_eq_false, not_false_eq_true, true_imp_iff, false_imp_iff, imp_self, or_true, true_or, or_false, false_or, and_self, ite_true, ite_false, if_true, if_false]
      refine fin gi' (Fr_trans fr1 (Fr_clk fr)) (fun j => ?_) (fun j h1 h2 => ?_) _ _ _
      · rw [fr 39 0 j rfl]
        simp [wI_at]
      · rw [fr 41 0 j rfl]
        have a0 : ¬ j = 0 := by omega
        have a1 : ¬ j = 1 := by omega
        have a7 : ¬ j = 7 := by omega
        simp [wI_at, a0, a1, a7]
/-- what is owed -/
def owesF (L : Option (List PC)) (W T O dy sl : Nat) (b : Nat → Nat) : Nat := sumN (fun l => if offF W T b l ≤ sl then txO L (envF l (offF W T b l) W T O dy (ptsF (W * T) b)) else 0) (likes W T)
theorem sumN_le999 {f : Nat → Nat} (h : ∀ i, f i ≤ 999) : ∀ n, sumN f n ≤ n * 999
  | 0 => by simp [sumN]
  | n + 1 => by
    rw [sumN_succ]
    have := sumN_le999 h n
    have := h n
    omega
theorem Pap_clk {gi gi' : GI} {t W T O : Nat} {b : Nat → Nat} (h : Pap gi t W T O b) (hf : Fr clkMod gi gi') : Pap gi' t W T O b := by
  obtain ⟨⟨p0, p1, p4, pW, pT, pw⟩, h2, h3, h54, hb, h55, h56⟩ := h
  exact ⟨⟨(hf 3 t 0 rfl).trans p0, (hf 3 t 1 rfl).trans p1, (hf 3 t 4 rfl).trans p4, pW, pT, fun f hf' c hc => (hf 59 _ c rfl).trans (pw f hf' c hc)⟩, (hf 3 t 2 rfl).trans h2, (hf 3 t 3 rfl).trans h3, fun c hc => (hf 54 t c rfl).trans (h54 c hc), hb, fun l hl => (hf 55 t l rfl).trans (h55 l hl), fun p hp => (hf 56 t p rfl).trans (h56 p hp)⟩
theorem c_owed {d t W T O dy sl s : Nat} {b : Nat → Nat} {lw : AR} {L : Option (List PC)} {gi : GI} {g : AG} {Q : Option AV → AH → Prop} (hG : GOK g) (h : ClerkOn gi g t W T O dy sl s lw L) (hP : Pap gi t W T O b)
    (hq : ∀ gi', Fr clkMod gi gi' → ClerkOn gi' g t W T O dy sl s lw L → Q (some (.inl (n32 (owesF L W T O dy sl b)))) (gi', g)) :
    ax_call (d + 5) m_Clerk_owed [.inr (.inr (some (7, 0)))] (gi, g) Q := by
  have r1 : g.1 7 0 1 = some (3, t) := h.1.1
  have lk := likes_36 W T
  have hW := hP.1.2.2.2.1
  have hT := hP.1.2.2.2.2.1
  have h64 := wt64 hW.2 hT.2
  have bs : sl ≤ 1000 := h.2.2.2.2.2.1.2.2.2.2
  rw [e_Clerk_owed]
  have ne : ¬ g.1 7 0 1 = none := by rw [r1]; simp
  have erid : ax_rid (g.1 7 0 1) = t := by rw [r1]; rfl
  have key := loop_up (n := likes W T) (P := fun i => ∀ gi1 : GI, Fr clkMod gi gi1 → ClerkOn gi1 g t W T O dy sl s lw L → Runs (d + 4) (m_Clerk_owed, 13, [some (.inr (.inr (some (7, 0)))), some (.inl (n32 (sumN (fun l => if offF W T b l ≤ sl then txO L (envF l (offF W T b l) W T O dy (ptsF (W * T) b)) else 0) i))), some (.inl (n32 i))], []) (gi1, g) Q) ?_ ?_
  · rw [b_Clerk_owed_0]
    refine ⟨fun z => absurd z ne, fun _ => ?_⟩
    rw [b_Clerk_owed_9]
    exact key 0 (Nat.zero_le _) gi (Fr_refl _ _) h
  · intro i hi ih gi1 fr hc
    have hP1 := Pap_clk hP fr
    have e4 : gi1 3 t 4 = n32 (likes W T) := hP1.1.2.2.1
    have e55 : gi1 55 t i = n32 (offF W T b i) := hP1.2.2.2.2.2.1 i hi
    have e33 : gi1 3 t 3 = n32 (ptsF (W * T) b) := hP1.2.2.1
    have hol := off_le W T b i
    have hpl := pts_le (W * T) b
    have h73 : gi1 7 0 3 = n32 sl := hc.2.2.1
    rw [b_Clerk_owed_13, erid, e4]
    refine ⟨r1, fun _ => ?_, fun z => absurd z (by rw [n32_lt (by omega) (by omega)]; omega)⟩
    rw [b_Clerk_owed_24, erid, n32_clamp (by omega), h73, e55]
    refine ⟨r1, G_3_6 hG t, n32_in (by omega) (by omega), fun z => ?_, fun z => ?_⟩
    · rw [n32_lt (by omega) (by omega)] at z
      rw [b_Clerk_owed_64, n32_add]
      have := ih gi1 fr hc
      rw [sumN_succ, if_neg (by omega), Nat.add_zero] at this
      exact this
    · rw [n32_lt (by omega) (by omega)] at z
      rw [b_Clerk_owed_40, erid, n32_clamp (by omega), e55, e33]
      refine ⟨r1, G_3_6 hG t, n32_in (by omega) (by omega), r1, ?_⟩
      refine c_taxBy (d := d) hG hc (by omega) (by omega) hpl ?_
      intro gi2 fr2 hc2
      simp only [b_Clerk_owed_62, b_Clerk_owed_64, n32_add, ax_psh_none, ax_psh_some, true_and, and_true, and_false, false_and, not_true_eq_false, not_false_eq_true, true_imp_iff, false_imp_iff, imp_self, or_true, true_or, or_false, false_or, and_self, ite_true, ite_false, if_true, if_false]
      have := ih gi2 (Fr_trans fr fr2) hc2
      rw [sumN_succ, if_pos (by omega)] at this
      exact this
  · intro gi1 fr hc
    have hP1 := Pap_clk hP fr
    have e4 : gi1 3 t 4 = n32 (likes W T) := hP1.1.2.2.1
    rw [b_Clerk_owed_13, erid, e4]
    refine ⟨r1, fun z => absurd z (by rw [n32_lt (by omega) (by omega)]; omega), fun _ => ?_⟩
    rw [b_Clerk_owed_70]
    exact hq gi1 fr hc
theorem GOK_of2 {g g' : AG} (h : GOK g) (hg : ∀ s a j, ¬ (s = 7 ∧ (j = 1 ∨ j = 2)) → ¬ (s = 8 ∧ (j = 0 ∨ j = 1)) → ¬ (s = 9 ∧ (j = 0 ∨ j = 1)) → g'.1 s a j = g.1 s a j) : GOK g' := by
  unfold GOK at *
  have e0 : ∀ a j, g'.1 0 a j = g.1 0 a j := fun a j => hg 0 a j (by omega) (by omega) (by omega)
  have e1 : ∀ a j, g'.1 1 a j = g.1 1 a j := fun a j => hg 1 a j (by omega) (by omega) (by omega)
  have e2 : ∀ a j, g'.1 2 a j = g.1 2 a j := fun a j => hg 2 a j (by omega) (by omega) (by omega)
  have e3 : ∀ a j, g'.1 3 a j = g.1 3 a j := fun a j => hg 3 a j (by omega) (by omega) (by omega)
  have e5 : ∀ a j, g'.1 5 a j = g.1 5 a j := fun a j => hg 5 a j (by omega) (by omega) (by omega)
  have e6 : ∀ a j, g'.1 6 a j = g.1 6 a j := fun a j => hg 6 a j (by omega) (by omega) (by omega)
  have e10 : ∀ a j, g'.1 10 a j = g.1 10 a j := fun a j => hg 10 a j (by omega) (by omega) (by omega)
  have e11 : ∀ a j, g'.1 11 a j = g.1 11 a j := fun a j => hg 11 a j (by omega) (by omega) (by omega)
  have e12 : ∀ a j, g'.1 12 a j = g.1 12 a j := fun a j => hg 12 a j (by omega) (by omega) (by omega)
  have e20 : ∀ a j, g'.1 20 a j = g.1 20 a j := fun a j => hg 20 a j (by omega) (by omega) (by omega)
  have e25 : ∀ a j, g'.1 25 a j = g.1 25 a j := fun a j => hg 25 a j (by omega) (by omega) (by omega)
  have e26 : ∀ a j, g'.1 26 a j = g.1 26 a j := fun a j => hg 26 a j (by omega) (by omega) (by omega)
  have e47 : ∀ a j, g'.1 47 a j = g.1 47 a j := fun a j => hg 47 a j (by omega) (by omega) (by omega)
  have e58 : ∀ a j, g'.1 58 a j = g.1 58 a j := fun a j => hg 58 a j (by omega) (by omega) (by omega)
  have e7_0 : ∀ a, g'.1 7 a 0 = g.1 7 a 0 := fun a => hg 7 a 0 (by omega) (by omega) (by omega)
  have e7_5 : ∀ a, g'.1 7 a 5 = g.1 7 a 5 := fun a => hg 7 a 5 (by omega) (by omega) (by omega)
  have e7_6 : ∀ a, g'.1 7 a 6 = g.1 7 a 6 := fun a => hg 7 a 6 (by omega) (by omega) (by omega)
  have e8_8 : ∀ a, g'.1 8 a 8 = g.1 8 a 8 := fun a => hg 8 a 8 (by omega) (by omega) (by omega)
  have e8_9 : ∀ a, g'.1 8 a 9 = g.1 8 a 9 := fun a => hg 8 a 9 (by omega) (by omega) (by omega)
  have e9_8 : ∀ a, g'.1 9 a 8 = g.1 9 a 8 := fun a => hg 9 a 8 (by omega) (by omega) (by omega)
  have e9_9 : ∀ a, g'.1 9 a 9 = g.1 9 a 9 := fun a => hg 9 a 9 (by omega) (by omega) (by omega)
  simp only [e0, e1, e2, e3, e5, e6, e10, e11, e12, e20, e25, e26, e47, e58, e7_0, e7_5, e7_6, e8_8, e8_9, e9_8, e9_9]
  exact h
def opMod (s j : Nat) : Bool := (s == 7 && (j == 3 || j == 4)) || s == 41
theorem c_open {d t W T O dy sl s : Nat} {lw : AR} {L : Option (List PC)} {gi : GI} {g : AG} {Q : Option AV → AH → Prop} (hG : GOK g) (p0 : gi 3 t 0 = n32 W) (p1 : gi 3 t 1 = n32 T) (p2 : gi 3 t 2 = n32 O) (bW : W ≤ 8) (bT : T ≤ 8) (bO : O ≤ 1000) (bd : dy ≤ 1000) (bs : sl ≤ 1000) (hs : Stamps gi s) (hs1 : s + 1 < 100000000) (hL : LawRef gi g lw L)
    (hq : ∀ gi' g', Fr opMod gi gi' → GF g g' → ClerkOn gi' g' t W T O dy sl (s + 1) lw L → Q none (gi', g')) :
    ax_call (d + 2) m_Clerk_open [.inr (.inr (some (7, 0))), .inr (.inr (some (3, t))), .inr (.inr lw), .inl (n32 dy), .inl (n32 sl)] (gi, g) Q := by
  obtain ⟨h74, -, hst⟩ := hs
  have h64 := wt64 bW bT
  have hG2 : GOK (ax_wR (ax_wR g.1 7 0 1 (some (3, t))) 7 0 2 lw, g.2) := GOK_of2 hG (fun s a j q1 q2 q3 => by
    show ax_wR (ax_wR g.1 7 0 1 (some (3, t))) 7 0 2 lw s a j = _
    rw [wR_at, if_neg (by omega), wR_at, if_neg (by omega)])
  have r71 : ax_wR (ax_wR g.1 7 0 1 (some (3, t))) 7 0 2 lw 7 0 1 = some (3, t) := by simp [wR_at]
  have r72 : ax_wR (ax_wR g.1 7 0 1 (some (3, t))) 7 0 2 lw 7 0 2 = lw := by simp [wR_at]
  have r70 : ax_wR (ax_wR g.1 7 0 1 (some (3, t))) 7 0 2 lw 7 0 0 = some (5, 0) := G_7_0 hG2 0
  have r50 : ax_wR (ax_wR g.1 7 0 1 (some (3, t))) 7 0 2 lw 5 0 0 = some (41, 0) := G_5_0 hG2 0
  have rid : ax_rid (some (3, t)) = t := rfl
  have gf : GF g (ax_wR (ax_wR g.1 7 0 1 (some (3, t))) 7 0 2 lw, g.2) := ⟨fun s a j q1 q2 q3 => by
    show ax_wR (ax_wR g.1 7 0 1 (some (3, t))) 7 0 2 lw s a j = _
    rw [wR_at, if_neg (by omega), wR_at, if_neg (by omega)], hG2, rfl⟩
  have done : ∀ gi1 : GI, Fr opMod gi gi1 → gi1 7 0 3 = n32 sl → gi1 7 0 4 = n32 (s + 1) → gi1 41 0 2 = n32 W → gi1 41 0 3 = n32 T → gi1 41 0 4 = n32 (W * T) → gi1 41 0 5 = n32 O → gi1 41 0 6 = n32 dy → Q none (gi1, ax_wR (ax_wR g.1 7 0 1 (some (3, t))) 7 0 2 lw, g.2) := by
    intro gi1 fr a3 a4 b2 b3 b4 b5 b6
    refine hq gi1 _ fr gf ⟨⟨r71, r72⟩, LawRef_fr hL (fun s' a j hs' => by rcases hs' with rfl | rfl | rfl | rfl <;> exact fr _ _ _ rfl) gf, a3, ⟨a4, hs1, fun k hk => ?_⟩, ⟨b2, b3, b4, b5, b6⟩, ⟨bW, bT, bO, bd, bs⟩, fun l o u hl ho hu hz => ?_⟩
    · obtain ⟨x, hx, e⟩ := hst k hk
      exact ⟨x, by omega, (fr 39 0 k rfl).trans e⟩
    · obtain ⟨x, hx, e⟩ := hst _ (keyN_lt hl ho hu)
      rw [fr 39 0 _ rfl, e, n32_eq (by omega) (by omega)] at hz
      omega
  have fr2 : ∀ x y z w u, Fr opMod gi (ax_wI (ax_wI (ax_wI (ax_wI (ax_wI (ax_wI (ax_wI gi 7 0 3 x) 7 0 4 y) 41 0 2 z) 41 0 3 w) 41 0 4 u) 41 0 5 (n32 O)) 41 0 6 (n32 dy)) := fun x y z w u => Fr_wI (Fr_wI (Fr_wI (Fr_wI (Fr_wI (Fr_wI (Fr_wI (Fr_refl _ _) rfl) rfl) rfl) rfl) rfl) rfl) rfl
  have ar : ∀ x y z w, ax_wI (ax_wI (ax_wI (ax_wI gi 7 0 3 x) 7 0 4 y) 41 0 2 z) 41 0 3 w 3 t 0 = n32 W := fun x y z w => by simp [wI_at, p0]
  have ar2 : ∀ x y z w, ax_wI (ax_wI (ax_wI (ax_wI gi 7 0 3 x) 7 0 4 y) 41 0 2 z) 41 0 3 w 3 t 1 = n32 T := fun x y z w => by simp [wI_at, p1]
  have key : ∀ x y, x = n32 sl → y = n32 (s + 1) → ax_call (d + 1) m_Paper_area [.inr (.inr (some (3, t)))] (ax_wI (ax_wI (ax_wI (ax_wI gi 7 0 3 x) 7 0 4 y) 41 0 2 (n32 W)) 41 0 3 (n32 T), ax_wR (ax_wR g.1 7 0 1 (some (3, t))) 7 0 2 lw, g.2) (fun r h' => Runs (d + 1) (m_Clerk_open, 73, [some (.inr (.inr (some (7, 0)))), some (.inr (.inr (some (3, t)))), some (.inr (.inr lw)), some (.inl (n32 dy)), some (.inl (n32 sl))], ax_psh r [.inl (n32 4), .inr (.inr (some (41, 0)))]) h' Q) := by
    intro x y hx hy
    subst hx
    subst hy
    rw [c_Paper_area _ _ _ _ (ar _ _ _ _) (ar2 _ _ _ _)]
    simp only [ax_psh_none, ax_psh_some, true_and, and_true, and_false, false_and, not_true_eq_false, not_false_eq_true, true_imp_iff, false_imp_iff, imp_self, or_true, true_or, or_false, false_or, and_self, ite_true, ite_false, if_true, if_false]
    rw [b_Clerk_open_73]
    simp (disch := omega) only [r71, r70, r50, rid, wI_at, p2, n32_add, n32_mul, n32_lt, n32_le, n32_eq, n32_clamp, n32_inT, n32_div, n32_rem, n32_m1, n32_m1', n32_m1lt, n32_ltm1, n32_10, n32_01, Nat.not_lt_zero, Nat.lt_irrefl, Nat.mul_zero, Nat.zero_mul, Nat.zero_add, Nat.add_zero, Nat.reduceEqDiff, Nat.one_ne_zero, Nat.zero_ne_one, ax_psh_none, ax_psh_some, true_and, and_true, and_false, false_and, not_true_eq_false, not_false_eq_true, true_imp_iff, false_imp_iff, imp_self, or_true, true_or, or_false, false_or, and_self, ite_true, ite_false, if_true, if_false, reduceIte, Nat.reduceEqDiff, Nat.reduceLT, Nat.reduceAdd, Nat.reduceMul, Nat.reduceSub, Nat.reduceDiv, Nat.reduceMod, Nat.reduceLeDiff]
    refine done _ (fr2 _ _ _ _ _) ?_ ?_ ?_ ?_ ?_ ?_ ?_ <;> simp [wI_at]
  cases lw with
  | none =>
    rw [e_Clerk_opena, b_Clerk_open_0a]
    simp (disch := omega) only [r71, r70, r50, rid, wI_at, p0, p1, h74, n32_add, n32_mul, n32_lt, n32_le, n32_eq, n32_clamp, n32_inT, n32_div, n32_rem, n32_m1, n32_m1', n32_m1lt, n32_ltm1, n32_10, n32_01, Nat.not_lt_zero, Nat.lt_irrefl, Nat.mul_zero, Nat.zero_mul, Nat.zero_add, Nat.add_zero, Nat.reduceEqDiff, Nat.one_ne_zero, Nat.zero_ne_one, ax_psh_none, ax_psh_some, true_and, and_true, and_false, false_and, not_true_eq_false, not_false_eq_true, true_imp_iff, false_imp_iff, imp_self, or_true, true_or, or_false, false_or, and_self, ite_true, ite_false, if_true, if_false, reduceIte, Nat.reduceEqDiff, Nat.reduceLT, Nat.reduceAdd, Nat.reduceMul, Nat.reduceSub, Nat.reduceDiv, Nat.reduceMod, Nat.reduceLeDiff]
    exact key _ _ rfl rfl
  | some q =>
    rcases hL with ⟨z, -⟩ | ⟨q', l, z, -, -, -⟩
    · exact absurd z (by simp)
    · simp only [Option.some.injEq] at z
      subst z
      rw [e_Clerk_openb, b_Clerk_open_0b]
      simp (disch := omega) only [r71, r70, r50, rid, wI_at, p0, p1, h74, n32_add, n32_mul, n32_lt, n32_le, n32_eq, n32_clamp, n32_inT, n32_div, n32_rem, n32_m1, n32_m1', n32_m1lt, n32_ltm1, n32_10, n32_01, Nat.not_lt_zero, Nat.lt_irrefl, Nat.mul_zero, Nat.zero_mul, Nat.zero_add, Nat.add_zero, Nat.reduceEqDiff, Nat.one_ne_zero, Nat.zero_ne_one, ax_psh_none, ax_psh_some, true_and, and_true, and_false, false_and, not_true_eq_false, not_false_eq_true, true_imp_iff, false_imp_iff, imp_self, or_true, true_or, or_false, false_or, and_self, ite_true, ite_false, if_true, if_false, reduceIte, Nat.reduceEqDiff, Nat.reduceLT, Nat.reduceAdd, Nat.reduceMul, Nat.reduceSub, Nat.reduceDiv, Nat.reduceMod, Nat.reduceLeDiff]
      exact key _ _ rfl rfl
