/-! free: the search as both do it -/
abbrev FS : Type := Nat × List Nat
def foldR {α : Type} (f : Nat → α → α) (x : α) (lo : Nat) : Nat → α
  | 0 => x
  | k + 1 => f (lo + k) (foldR f x lo k)
def fsUp (x : FS) (r : List Nat) : FS := (x.1 + 1, if x.1 = 0 then r else x.2)
/-- the reference: all cells -/
def levM (n p : Nat) (ok : (Nat → Nat) → Bool) : Nat → (Nat → Nat) → List Nat → FS → Nat → FS
  | 0, B, r, x, _ => if ok B = true then fsUp x r else x
  | k + 1, B, r, x, lo => foldR (fun c y => levM n p ok k (updB B c p) (r ++ [c]) y (c + 1)) x lo (n - lo)
/-- the class: not those that have the part -/
def levC (n p : Nat) (ok : (Nat → Nat) → Bool) : Nat → (Nat → Nat) → List Nat → FS → Nat → FS
  | 0, B, r, x, _ => if ok B = true then fsUp x r else x
  | k + 1, B, r, x, lo => foldR (fun c y => if B c = p then y else levC n p ok k (updB B c p) (r ++ [c]) y (c + 1)) x lo (n - lo)
def NonF (n p : Nat) (ok : (Nat → Nat) → Bool) : Nat → (Nat → Nat) → Nat → Prop
  | 0, B, _ => ok B = false
  | k + 1, B, lo => ∀ c, lo ≤ c → c < n → NonF n p ok k (updB B c p) (c + 1)
theorem foldR_id {α : Type} {f : Nat → α → α} {x : α} {lo : Nat} : ∀ {k : Nat}, (∀ c, lo ≤ c → c < lo + k → f c x = x) → foldR f x lo k = x
  | 0, _ => rfl
  | k + 1, h => by
    show f (lo + k) (foldR f x lo k) = x
    rw [foldR_id (fun c h1 h2 => h c h1 (by omega)), h (lo + k) (by omega) (by omega)]
theorem foldR_congr {α : Type} {f g : Nat → α → α} {x : α} {lo : Nat} : ∀ {k : Nat}, (∀ c y, lo ≤ c → c < lo + k → f c y = g c y) → foldR f x lo k = foldR g x lo k
  | 0, _ => rfl
  | k + 1, h => by
    show f (lo + k) (foldR f x lo k) = g (lo + k) (foldR g x lo k)
    rw [foldR_congr (g := g) (fun c y h1 h2 => h c y h1 (by omega)), h _ _ (by omega) (by omega)]
theorem NonF_up {n p : Nat} {ok : (Nat → Nat) → Bool} : ∀ {k : Nat} {B : Nat → Nat} {lo lo' : Nat}, lo ≤ lo' → NonF n p ok k B lo → NonF n p ok k B lo'
  | 0, _, _, _, _, h => h
  | _ + 1, _, _, _, hl, h => fun c h1 h2 => h c (by omega) h2
theorem levM_non {n p : Nat} {ok : (Nat → Nat) → Bool} : ∀ {k : Nat} {B : Nat → Nat} {r : List Nat} {x : FS} {lo : Nat}, NonF n p ok k B lo → levM n p ok k B r x lo = x
  | 0, B, r, x, lo, h => by
    have h : ok B = false := h
    show (if ok B = true then fsUp x r else x) = x
    rw [h]
    rfl
  | k + 1, B, r, x, lo, h => foldR_id (fun c h1 h2 => levM_non (h c h1 (by omega)))
theorem lev_skip {n p : Nat} {ok : (Nat → Nat) → Bool} : ∀ {k : Nat} {B : Nat → Nat} {r : List Nat} {x : FS} {lo : Nat}, NonF n p ok k B lo → levC n p ok (k + 1) B r x lo = levM n p ok (k + 1) B r x lo
  | 0, B, r, x, lo, h => by
    refine foldR_congr (fun c y h1 h2 => ?_)
    by_cases z : B c = p
    · rw [if_pos z, updB_same z]
      have h : ok B = false := h
      show y = if ok B = true then _ else y
      rw [h]
      rfl
    · rw [if_neg z]
      rfl
  | k + 1, B, r, x, lo, h => by
    refine foldR_congr (fun c y h1 h2 => ?_)
    by_cases z : B c = p
    · rw [if_pos z, updB_same z, levM_non (NonF_up (by omega) h)]
    · rw [if_neg z]
      exact lev_skip (h c h1 (by omega))
theorem foldR_ge {f : Nat → FS → FS} {x : FS} {lo : Nat} (h : ∀ c y, y.1 ≤ (f c y).1) : ∀ k, x.1 ≤ (foldR f x lo k).1
  | 0 => Nat.le_refl _
  | k + 1 => Nat.le_trans (foldR_ge h k) (h _ _)
theorem levM_ge {n p : Nat} {ok : (Nat → Nat) → Bool} : ∀ {k : Nat} {B : Nat → Nat} {r : List Nat} {x : FS} {lo : Nat}, x.1 ≤ (levM n p ok k B r x lo).1
  | 0, B, r, x, lo => by
    show x.1 ≤ (if ok B = true then fsUp x r else x).1
    split
    · exact Nat.le_succ _
    · exact Nat.le_refl _
  | k + 1, B, r, x, lo => foldR_ge (fun c y => levM_ge) _
theorem foldR_eq1 {f : Nat → FS → FS} {x : FS} {lo : Nat} (hg : ∀ c y, y.1 ≤ (f c y).1) {k : Nat} : (foldR f x lo k).1 = x.1 → ∀ i, i < k → (f (lo + i) (foldR f x lo i)).1 = (foldR f x lo i).1 := by
  induction k with
  | zero => exact fun _ i hi => absurd hi (Nat.not_lt_zero i)
  | succ k ih =>
    intro h i hi
    have h : (f (lo + k) (foldR f x lo k)).1 = x.1 := h
    have h1 := hg (lo + k) (foldR f x lo k)
    have h2 := foldR_ge (x := x) (lo := lo) hg k
    by_cases z : i = k
    · rw [z]
      omega
    · exact ih (by omega) i (by omega)
theorem levM_zero {n p : Nat} {ok : (Nat → Nat) → Bool} : ∀ {k : Nat} {B : Nat → Nat} {r : List Nat} {x : FS} {lo : Nat}, (levM n p ok k B r x lo).1 = x.1 → NonF n p ok k B lo
  | 0, B, r, x, lo, h => by
    have h : (if ok B = true then fsUp x r else x).1 = x.1 := h
    show ok B = false
    cases z : ok B with
    | false => rfl
    | true =>
      rw [z, if_pos rfl] at h
      have h : x.1 + 1 = x.1 := h
      omega
  | k + 1, B, r, x, lo, h => fun c h1 h2 => by
    have := foldR_eq1 (f := fun c y => levM n p ok k (updB B c p) (r ++ [c]) y (c + 1)) (fun c y => levM_ge) h (c - lo) (by omega)
    rw [show lo + (c - lo) = c by omega] at this
    exact levM_zero this
theorem foldR_le {f : Nat → FS → FS} {x : FS} {lo m : Nat} (h : ∀ c y, (f c y).1 ≤ y.1 + m) : ∀ k, (foldR f x lo k).1 ≤ x.1 + k * m
  | 0 => by simp [foldR]
  | k + 1 => by
    have h1 := foldR_le (x := x) (lo := lo) h k
    have h2 := h (lo + k) (foldR f x lo k)
    show (f (lo + k) (foldR f x lo k)).1 ≤ _
    rw [Nat.succ_mul]
    omega
theorem levC_le {n p : Nat} {ok : (Nat → Nat) → Bool} : ∀ {k : Nat} {B : Nat → Nat} {r : List Nat} {x : FS} {lo : Nat}, (levC n p ok k B r x lo).1 ≤ x.1 + n ^ k
  | 0, B, r, x, lo => by
    show (if ok B = true then fsUp x r else x).1 ≤ x.1 + 1
    split
    · exact Nat.le_refl _
    · omega
  | k + 1, B, r, x, lo => by
    have h := foldR_le (x := x) (lo := lo) (f := fun c y => if B c = p then y else levC n p ok k (updB B c p) (r ++ [c]) y (c + 1)) (m := n ^ k) (fun c y => by
      by_cases z : B c = p
      · simp only [if_pos z]
        omega
      · simp only [if_neg z]
        exact levC_le) (n - lo)
    have h2 : (n - lo) * n ^ k ≤ n * n ^ k := Nat.mul_le_mul_right _ (by omega)
    have h3 : n ^ (k + 1) = n * n ^ k := by rw [Nat.pow_succ, Nat.mul_comm]
    show (foldR _ x lo (n - lo)).1 ≤ _
    omega
theorem levM_le {n p : Nat} {ok : (Nat → Nat) → Bool} : ∀ {k : Nat} {B : Nat → Nat} {r : List Nat} {x : FS} {lo : Nat}, (levM n p ok k B r x lo).1 ≤ x.1 + n ^ k
  | 0, B, r, x, lo => by
    show (if ok B = true then fsUp x r else x).1 ≤ x.1 + 1
    split
    · exact Nat.le_refl _
    · omega
  | k + 1, B, r, x, lo => by
    have h := foldR_le (x := x) (lo := lo) (f := fun c y => levM n p ok k (updB B c p) (r ++ [c]) y (c + 1)) (m := n ^ k) (fun c y => levM_le) (n - lo)
    have h2 : (n - lo) * n ^ k ≤ n * n ^ k := Nat.mul_le_mul_right _ (by omega)
    have h3 : n ^ (k + 1) = n * n ^ k := by rw [Nat.pow_succ, Nat.mul_comm]
    show (foldR _ x lo (n - lo)).1 ≤ _
    omega
/-! the class's parts -/
theorem ClerkOn_of {gi gi' : GI} {g : AG} {t W T O dy sl s : Nat} {lw : AR} {L : Option (List PC)} (hG : GOK g) (h : ClerkOn gi g t W T O dy sl s lw L) (hs : ∀ s a j, s = 4 ∨ s = 60 ∨ s = 61 ∨ s = 62 ∨ s = 7 ∨ s = 39 ∨ s = 40 ∨ s = 41 → gi' s a j = gi s a j) : ClerkOn gi' g t W T O dy sl s lw L := by
  obtain ⟨h1, h2, h3, h4, ⟨a2, a3, a4, a5, a6⟩, h6, h7⟩ := h
  refine ⟨h1, LawRef_fr h2 (fun s a j q => hs s a j (by omega)) (GF_refl hG), (hs 7 0 3 (by omega)).trans h3, Stamps_of h4 (hs 7 0 4 (by omega)) (fun j => hs 39 0 j (by omega)), ⟨(hs 41 0 2 (by omega)).trans a2, (hs 41 0 3 (by omega)).trans a3, (hs 41 0 4 (by omega)).trans a4, (hs 41 0 5 (by omega)).trans a5, (hs 41 0 6 (by omega)).trans a6⟩, h6, fun l o u q1 q2 q3 q4 => ?_⟩
  rw [hs 39 0 _ (by omega)] at q4
  rw [hs 39 0 _ (by omega)]
  exact h7 l o u q1 q2 q3 q4
theorem c_owesNothing {d t W T O dy sl s c p : Nat} {b : Nat → Nat} {lw : AR} {L : Option (List PC)} {gi : GI} {g : AG} {Q : Option AV → AH → Prop} (hG : GOK g) (ht6 : t < 6) (h : ClerkOn gi g t W T O dy sl s lw L) (hP : Pap gi t W T O b) (hc : c < W * T) (hp : p < 10)
    (hq : ∀ gi', Fr clkMod gi gi' → ClerkOn gi' g t W T O dy sl s lw L → Q (some (.inl (b32 (decide (owesF L W T O dy sl (updB b c p) = 0))))) (gi', g)) :
    ax_call (d + 5) m_Clerk_owesNothingWith [.inr (.inr (some (7, 0))), .inl (n32 c), .inl (n32 p)] (gi, g) Q := by
  have r1 : g.1 7 0 1 = some (3, t) := h.1.1
  have lk := likes_36 W T
  have hW := hP.1.2.2.2.1
  have hT := hP.1.2.2.2.2.1
  have h64 := wt64 hW.2 hT.2
  have bs : sl ≤ 1000 := h.2.2.2.2.2.1.2.2.2.2
  rw [e_Clerk_owesNothingWith]
  have ne : ¬ g.1 7 0 1 = none := by rw [r1]; simp
  have erid : ax_rid (g.1 7 0 1) = t := by rw [r1]; rfl
  have hpl := pts_le (W * T) (updB b c p)
  have key := loop_up (n := likes W T) (P := fun i => ∀ (gi1 : GI) o5, Fr clkMod gi gi1 → ClerkOn gi1 g t W T O dy sl s lw L → (∀ l, l < i → (if offF W T (updB b c p) l ≤ sl then txO L (envF l (offF W T (updB b c p) l) W T O dy (ptsF (W * T) (updB b c p))) else 0) = 0) → Runs (d + 4) (m_Clerk_owesNothingWith, 22, [some (.inr (.inr (some (7, 0)))), some (.inl (n32 c)), some (.inl (n32 p)), some (.inl (n32 (ptsF (W * T) (updB b c p)))), some (.inl (n32 i)), o5], []) (gi1, g) Q) ?_ ?_
  · rw [b_Clerk_owesNothingWith_0]
    refine ⟨fun z => absurd z ne, fun _ => ?_⟩
    rw [b_Clerk_owesNothingWith_9, erid]
    refine ⟨r1, ?_⟩
    rw [c_unlikeWith _ hG hP hc hp]
    simp only [b_Clerk_owesNothingWith_18, ax_psh_none, ax_psh_some, true_and, and_true, and_false, false_and, not_true_eq_false, not_false_eq_true, true_imp_iff, false_imp_iff, imp_self, or_true, true_or, or_false, false_or, and_self, ite_true, ite_false, if_true, if_false]
    exact key 0 (Nat.zero_le _) gi _ (Fr_refl _ _) h (fun l hl => absurd hl (Nat.not_lt_zero l))
  · intro i hi ih gi1 o5 fr hcl hz
    have hP1 := Pap_clk hP fr
    have e4 : gi1 3 t 4 = n32 (likes W T) := hP1.1.2.2.1
    have hol := off_le W T (updB b c p) i
    have h73 : gi1 7 0 3 = n32 sl := hcl.2.2.1
    rw [b_Clerk_owesNothingWith_22, erid, e4]
    refine ⟨r1, fun _ => ?_, fun z => absurd z (by rw [n32_lt (by omega) (by omega)]; omega)⟩
    rw [b_Clerk_owesNothingWith_34, erid]
    refine ⟨r1, ?_⟩
    rw [c_offWith _ hG ht6 hP1.1 hP1.2.2.2.1 hP1.2.2.2.2.1 (hP1.2.2.2.2.2.1 i hi) hi hc hp]
    simp only [b_Clerk_owesNothingWith_45, h73, ax_psh_none, ax_psh_some, true_and, and_true, and_false, false_and, not_true_eq_false, not_false_eq_true, true_imp_iff, false_imp_iff, imp_self, or_true, true_or, or_false, false_or, and_self, ite_true, ite_false, if_true, if_false]
    refine ⟨fun z => ?_, fun z => ?_⟩
    · rw [n32_lt (by omega) (by omega)] at z
      rw [b_Clerk_owesNothingWith_70, n32_add]
      refine ih gi1 _ fr hcl (fun l hl => ?_)
      by_cases q : l = i
      · rw [q, if_neg (by omega)]
      · exact hz l (by omega)
    · rw [n32_lt (by omega) (by omega)] at z
      rw [b_Clerk_owesNothingWith_56]
      refine c_taxBy (d := d) hG hcl (by omega) (by omega) hpl ?_
      intro gi2 fr2 hc2
      have htx := txO_le L (envF i (offF W T (updB b c p) i) W T O dy (ptsF (W * T) (updB b c p)))
      simp only [b_Clerk_owesNothingWith_65, ax_psh_none, ax_psh_some, true_and, and_true, and_false, false_and, not_true_eq_false, not_false_eq_true, true_imp_iff, false_imp_iff, imp_self, or_true, true_or, or_false, false_or, and_self, ite_true, ite_false, if_true, if_false]
      refine ⟨fun zt => ?_, fun zt => ?_⟩
      · rw [n32_lt (by omega) (by omega)] at zt
        have hne : ¬ owesF L W T O dy sl (updB b c p) = 0 := by
          intro q
          unfold owesF at q
          have := sumN_zero.mp q i hi
          rw [if_pos (by omega)] at this
          omega
        have := hq gi2 (Fr_trans fr fr2) hc2
        rw [decide_eq_false hne] at this
        simp only [b_Clerk_owesNothingWith_68, ax_psh_none, ax_psh_some, true_and, and_true, and_false, false_and, not_true_eq_false, not_false_eq_true, true_imp_iff, false_imp_iff, imp_self, or_true, true_or, or_false, false_or, and_self, ite_true, ite_false, if_true, if_false]
        exact this
      · rw [n32_lt (by omega) (by omega)] at zt
        simp only [b_Clerk_owesNothingWith_70, n32_add, ax_psh_none, ax_psh_some, true_and, and_true, and_false, false_and, not_true_eq_false, not_false_eq_true, true_imp_iff, false_imp_iff, imp_self, or_true, true_or, or_false, false_or, and_self, ite_true, ite_false, if_true, if_false]
        refine ih gi2 _ (Fr_trans fr fr2) hc2 (fun l hl => ?_)
        by_cases q : l = i
        · rw [q, if_pos (by omega)]
          omega
        · exact hz l (by omega)
  · intro gi1 o5 fr hcl hz
    have hP1 := Pap_clk hP fr
    have e4 : gi1 3 t 4 = n32 (likes W T) := hP1.1.2.2.1
    rw [b_Clerk_owesNothingWith_22, erid, e4]
    refine ⟨r1, fun z => absurd z (by rw [n32_lt (by omega) (by omega)]; omega), fun _ => ?_⟩
    have he : owesF L W T O dy sl (updB b c p) = 0 := by
      unfold owesF
      exact sumN_zero.mpr hz
    have := hq gi1 fr hcl
    rw [decide_eq_true he] at this
    simp only [b_Clerk_owesNothingWith_76, n32_10, ax_psh_none, ax_psh_some, true_and, and_true, and_false, false_and, not_true_eq_false, not_false_eq_true, true_imp_iff, false_imp_iff, imp_self, or_true, true_or, or_false, false_or, and_self, ite_true, ite_false, if_true, if_false]
    exact this
def chMod (s j : Nat) : Bool := s == 3 || (Nat.ble 54 s && Nat.ble s 57) || s == 59 || s == 39 || s == 40 || s == 41 || s == 42 || (s == 5 && (j == 2 || j == 3)) || (s == 8 && j == 7) || s == 43 || s == 44
theorem chMod_f {s j : Nat} (h : chMod s j = false) : ¬ (s = 3 ∨ (54 ≤ s ∧ s ≤ 57) ∨ s = 59 ∨ (39 ≤ s ∧ s ≤ 42) ∨ (s = 5 ∧ (j = 2 ∨ j = 3)) ∨ (s = 8 ∧ j = 7) ∨ s = 43 ∨ s = 44) := by
  unfold chMod at h
  have hb : ∀ x y : Nat, Nat.ble x y = true ↔ x ≤ y := fun x y => by rw [Nat.ble_eq]
  rw [← Bool.not_eq_true] at h
  simp only [Bool.or_eq_true, Bool.and_eq_true, beq_iff_eq, hb] at h
  omega
theorem clkMod_no {s j : Nat} (h : ¬ ((39 ≤ s ∧ s ≤ 42) ∨ (s = 5 ∧ (j = 2 ∨ j = 3)))) : clkMod s j = false := by
  cases hz : clkMod s j with
  | false => rfl
  | true =>
    exfalso
    unfold clkMod at hz
    simp only [Bool.or_eq_true, Bool.and_eq_true, beq_iff_eq] at hz
    omega
theorem ch_P {gi gi' : GI} {t : Nat} (h : OnlyP t gi gi') : Fr chMod gi gi' := fun s a j q => by
  have := chMod_f q
  exact h s a j (by omega) (by omega) (by omega)
theorem ch_clk {gi gi' : GI} (h : Fr clkMod gi gi') : Fr chMod gi gi' := Fr_mono h (fun s j q => clkMod_no (by have := chMod_f q; omega))
/-- what is found so far -/
def FrV (gi : GI) (x : FS) (wn : Nat) : Prop := gi 8 0 7 = n32 x.1 ∧ (0 < x.1 → ∀ i, i < wn → gi 44 0 i = n32 (x.2.getD i 0))
theorem FrV_of {gi gi' : GI} {x : FS} {wn : Nat} (h : FrV gi x wn) (h7 : gi' 8 0 7 = gi 8 0 7) (h44 : ∀ i, gi' 44 0 i = gi 44 0 i) : FrV gi' x wn := ⟨h7.trans h.1, fun q i hi => (h44 i).trans (h.2 q i hi)⟩
theorem c_ffound {d wn : Nat} {r : List Nat} {x : FS} {gi : GI} {g : AG} {Q : Option AV → AH → Prop} (hG : GOK g) (hv : FrV gi x wn) (hx : x.1 < 1000000) (hwn : wn ≤ 3) (hch : ∀ i, i < wn → gi 43 0 i = n32 (r.getD i 0))
    (hq : ∀ gi', (∀ s a j, s ≠ 44 → ¬ (s = 8 ∧ a = 0 ∧ j = 7) → gi' s a j = gi s a j) → FrV gi' (fsUp x r) wn → Q none (gi', g)) :
    ax_call (d + 1) m_Freeing_found [.inr (.inr (some (8, 0)))] (gi, g) Q := by
  have c0 : (n32 0).toNatClampNeg = 0 := by decide
  have c3 : (n32 3).toNatClampNeg = 3 := by decide
  have nn : ¬ n32 3 < n32 0 := by decide
  have n0 : ¬ n32 0 < n32 0 := by decide
  rw [e_Freeing_found, b_Freeing_found_0, hv.1]
  refine ⟨fun z => ?_, fun z => ?_⟩
  · rw [n32_eq (by omega) (by omega)] at z
    rw [b_Freeing_found_7, c0, c3]
    refine ⟨G_8_8 hG 0, G_8_9 hG 0, ⟨⟨n0, n0, nn, by omega, by omega⟩, Or.inl rfl⟩, ?_⟩
    rw [b_Freeing_found_21]
    have e7 : ax_cI gi 43 0 0 44 0 0 3 8 0 7 = n32 x.1 := by rw [cI_at, if_neg (by omega), hv.1]
    rw [e7, n32_add]
    refine hq _ ?_ ⟨wI_self _ _ _ _ _, fun _ i hi => ?_⟩
    · intro s a j q1 q2
      rw [wI_at, if_neg q2, cI_at, if_neg (by omega)]
    · rw [wI_ne (by decide), cI_at, if_pos ⟨rfl, rfl, by omega, by omega⟩, show 0 + (i - 0) = i by omega, hch i hi]
      show _ = n32 ((if x.1 = 0 then r else x.2).getD i 0)
      rw [if_pos z]
  · rw [n32_eq (by omega) (by omega)] at z
    rw [b_Freeing_found_21, hv.1, n32_add]
    refine hq _ ?_ ⟨wI_self _ _ _ _ _, fun _ i hi => ?_⟩
    · intro s a j q1 q2
      rw [wI_at, if_neg q2]
    · rw [wI_ne (by decide)]
      show _ = n32 ((if x.1 = 0 then r else x.2).getD i 0)
      rw [if_neg z]
      exact hv.2 (by omega) i hi
def okF (L : Option (List PC)) (W T O dy sl : Nat) (b : Nat → Nat) : Bool := decide (owesF L W T O dy sl b = 0)
theorem getD_app {r : List Nat} {c i : Nat} : (r ++ [c]).getD i 0 = if i < r.length then r.getD i 0 else if i = r.length then c else 0 := by
  rw [List.getD_eq_getElem?_getD]
  by_cases h : i < r.length
  · rw [if_pos h, List.getElem?_append_left h, List.getD_eq_getElem?_getD]
  · rw [if_neg h, List.getElem?_append_right (by omega)]
    by_cases h2 : i = r.length
    · rw [if_pos h2, h2, Nat.sub_self]
      rfl
    · rw [if_neg h2]
      have : 1 ≤ i - r.length := by omega
      rw [List.getElem?_eq_none (by simp; omega)]
      rfl
theorem c_choose {t W T O dy sl s p : Nat} {lw : AR} {L : Option (List PC)} {g : AG} (hG : GOK g) (ht6 : t < 6) (hp : p < 10) (g80 : g.1 8 0 0 = some (7, 0)) (g81 : g.1 8 0 1 = some (3, t)) : ∀ (k d dep lo : Nat) (r : List Nat) (B : Nat → Nat) (x : FS) (gi : GI) (Q : Option AV → AH → Prop), lo ≤ W * T → r.length = dep → dep + k + 1 ≤ 3 → x.1 + (W * T) ^ (k + 1) < 1000000 → ClerkOn gi g t W T O dy sl s lw L → Pap gi t W T O B → (∀ u, u < 6 → PaperInv gi u) → gi 8 0 3 = n32 p → gi 8 0 5 = n32 (dep + k + 1) → (∀ i, i < dep → gi 43 0 i = n32 (r.getD i 0)) → FrV gi x (dep + k + 1) →
    (∀ gi', Fr chMod gi gi' → ClerkOn gi' g t W T O dy sl s lw L → Pap gi' t W T O B → (∀ u, u < 6 → PaperInv gi' u) → (∀ i, i < dep → gi' 43 0 i = n32 (r.getD i 0)) → FrV gi' (levC (W * T) p (okF L W T O dy sl) (k + 1) B r x lo) (dep + k + 1) → Q none (gi', g)) →
    ax_call (d + 6 + k) m_Freeing_choose [.inr (.inr (some (8, 0))), .inl (n32 dep), .inl (n32 lo)] (gi, g) Q := by
  intro k
  induction k with
  | zero =>
    intro d dep lo r B x gi Q hlo hr hd hx hC hP hPI h3 h5 hch hv hq
    have hW := hP.1.2.2.2.1
    have hT := hP.1.2.2.2.2.1
    have h64 := wt64 hW.2 hT.2
    have ne0 : ¬ g.1 8 0 0 = none := by rw [g80]; simp
    have ne1 : ¬ g.1 8 0 1 = none := by rw [g81]; simp
    have erid0 : ax_rid (g.1 8 0 0) = 0 := by rw [g80]; rfl
    have erid : ax_rid (g.1 8 0 1) = t := by rw [g81]; rfl
    have key := loop_up (n := W * T - lo) (P := fun i => ∀ (gi1 : GI) o2 o5, Fr chMod gi gi1 → ClerkOn gi1 g t W T O dy sl s lw L → Pap gi1 t W T O B → (∀ u, u < 6 → PaperInv gi1 u) → (∀ i, i < dep → gi1 43 0 i = n32 (r.getD i 0)) → FrV gi1 (foldR (fun c y => if B c = p then y else levC (W * T) p (okF L W T O dy sl) 0 (updB B c p) (r ++ [c]) y (c + 1)) x lo i) (dep + 0 + 1) → Runs (d + 5) (m_Freeing_choose, 34, [some (.inr (.inr (some (8, 0)))), some (.inl (n32 dep)), o2, some (.inl (n32 (W * T))), some (.inl (n32 (lo + i))), o5], []) (gi1, g) Q) ?_ ?_
    · rw [e_Freeing_choose, b_Freeing_choose_0]
      refine ⟨fun z => absurd z ne0, fun _ => ?_⟩
      rw [b_Freeing_choose_7]
      refine ⟨fun z => absurd z ne1, fun _ => ?_⟩
      rw [b_Freeing_choose_14, h5]
      refine ⟨fun _ => ?_, fun z => absurd z (by rw [n32_lt (by omega) (by omega)]; omega)⟩
      rw [b_Freeing_choose_23, erid]
      refine ⟨g81, ?_⟩
      rw [c_Paper_area _ _ _ _ hP.1.1 hP.1.2.1]
      simp only [b_Freeing_choose_30, ax_psh_none, ax_psh_some, true_and, and_true, and_false, false_and, not_true_eq_false, not_false_eq_true, true_imp_iff, false_imp_iff, imp_self, or_true, true_or, or_false, false_or, and_self, ite_true, ite_false, if_true, if_false]
      exact key 0 (Nat.zero_le _) gi _ _ (Fr_refl _ _) hC hP hPI hch hv
    · intro i hi ih gi1 o2 o5 fr hC1 hP1 hPI1 hch1 hv1
      have e3 : gi1 8 0 3 = n32 p := (fr 8 0 3 rfl).trans h3
      have e5 : gi1 8 0 5 = n32 (dep + 0 + 1) := (fr 8 0 5 rfl).trans h5
      have e54 : gi1 54 t (lo + i) = n32 (B (lo + i)) := hP1.2.2.2.1 _ (by omega)
      have hB10 := hP1.2.2.2.2.1 (lo + i) (by omega)
      have hfl : (foldR (fun c y => if B c = p then y else levC (W * T) p (okF L W T O dy sl) 0 (updB B c p) (r ++ [c]) y (c + 1)) x lo i).1 ≤ x.1 + i * 1 := foldR_le (fun c y => by
        by_cases z : B c = p
        · simp only [if_pos z]
          omega
        · simp only [if_neg z]
          exact Nat.le_trans levC_le (by simp)) i
      have hpw : (W * T) ^ (0 + 1) = W * T := by simp
      rw [b_Freeing_choose_34]
      refine ⟨fun _ => ?_, fun z => absurd z (by rw [n32_lt (by omega) (by omega)]; omega)⟩
      rw [b_Freeing_choose_40, erid, n32_clamp (by omega), e54, e3]
      refine ⟨g81, G_3_5 hG t, n32_in (by omega) (by omega), fun z => ?_, fun z => ?_⟩
      · rw [n32_eq (by omega) (by omega)] at z
        rw [b_Freeing_choose_61, b_Freeing_choose_140, n32_add]
        refine ih gi1 _ _ fr hC1 hP1 hPI1 hch1 ?_
        show FrV gi1 (if B (lo + i) = p then _ else _) _
        rw [if_pos z]
        exact hv1
      · rw [n32_eq (by omega) (by omega)] at z
        have w5 : ax_wI gi1 43 0 dep (n32 (lo + i)) 8 0 5 = n32 (dep + 0 + 1) := by rw [wI_ne (by decide), e5]
        rw [b_Freeing_choose_64, n32_clamp (by omega), w5, n32_add]
        refine ⟨G_8_8 hG 0, n32_in (by omega) (by omega), fun y => absurd y (by rw [n32_lt (by omega) (by omega)]; omega), fun _ => ?_⟩
        have f43 : ∀ s a j, s ≠ 43 → ax_wI gi1 43 0 dep (n32 (lo + i)) s a j = gi1 s a j := fun s a j q => wI_ne q _ _ _ _ _
        have g43 : ∀ j, ax_wI gi1 43 0 dep (n32 (lo + i)) 43 0 j = if j = dep then n32 (lo + i) else gi1 43 0 j := fun j => by
          rw [wI_at]
          by_cases q : j = dep
          · rw [if_pos ⟨rfl, rfl, q⟩, if_pos q]
          · rw [if_neg (by omega), if_neg q]
        have fr43 : Fr chMod gi (ax_wI gi1 43 0 dep (n32 (lo + i))) := Fr_wI fr rfl
        generalize ax_wI gi1 43 0 dep (n32 (lo + i)) = gi2 at *
        have hC2 : ClerkOn gi2 g t W T O dy sl s lw L := ClerkOn_of hG hC1 (fun s a j q => f43 s a j (by omega))
        have hP2 : Pap gi2 t W T O B := by
          obtain ⟨⟨p0, p1, p4, pW, pT, pw⟩, h2, h3, h54, hb, h55, h56⟩ := hP1
          exact ⟨⟨(f43 _ _ _ (by decide)).trans p0, (f43 _ _ _ (by decide)).trans p1, (f43 _ _ _ (by decide)).trans p4, pW, pT, fun f hf c hc => (f43 _ _ _ (by decide)).trans (pw f hf c hc)⟩, (f43 _ _ _ (by decide)).trans h2, (f43 _ _ _ (by decide)).trans h3, fun c hc => (f43 _ _ _ (by decide)).trans (h54 c hc), hb, fun l hl => (f43 _ _ _ (by decide)).trans (h55 l hl), fun p hp => (f43 _ _ _ (by decide)).trans (h56 p hp)⟩
        have hPI2 : ∀ u, u < 6 → PaperInv gi2 u := fun u hu => PaperInv_of (hPI1 u hu) (fun j => f43 3 u j (by decide)) (fun a j => f43 59 a j (by decide))
        have hv2 := FrV_of hv1 (f43 8 0 7 (by decide)) (fun i => f43 44 0 i (by decide))
        have hch2 : ∀ i', i' < dep + 0 + 1 → gi2 43 0 i' = n32 ((r ++ [lo + i]).getD i' 0) := fun i' hi' => by
          rw [g43, getD_app]
          by_cases q : i' = dep
          · rw [if_pos q, if_neg (by omega), if_pos (by omega)]
          · rw [if_neg q, if_pos (by omega)]
            exact hch1 i' (by omega)
        have e3' : gi2 8 0 3 = n32 p := (f43 8 0 3 (by decide)).trans e3
        rw [b_Freeing_choose_120, erid0, e3']
        refine ⟨g80, ?_⟩
        refine c_owesNothing (d := d) hG ht6 hC2 hP2 (by omega) hp ?_
        intro gi3 fr3 hC3
        have hP3 := Pap_clk hP2 fr3
        have hPI3 : ∀ u, u < 6 → PaperInv gi3 u := fun u hu => PaperInv_of (hPI2 u hu) (fun j => fr3 3 u j rfl) (fun a j => fr3 59 a j rfl)
        have hv3 := FrV_of hv2 (fr3 8 0 7 rfl) (fun i => fr3 44 0 i rfl)
        have hch3 : ∀ i', i' < dep + 0 + 1 → gi3 43 0 i' = n32 ((r ++ [lo + i]).getD i' 0) := fun i' hi' => (fr3 43 0 i' rfl).trans (hch2 i' hi')
        have hch3' : ∀ i', i' < dep → gi3 43 0 i' = n32 (r.getD i' 0) := fun i' hi' => by
          rw [hch3 i' (by omega), getD_app, if_pos (by omega)]
        cases hok : decide (owesF L W T O dy sl (updB B (lo + i) p) = 0) with
        | false =>
          simp (disch := omega) only [b_Freeing_choose_133, b_Freeing_choose_140, b32, reduceCtorEq, n32_add, n32_mul, n32_lt, n32_le, n32_eq, n32_clamp, n32_inT, n32_div, n32_rem, n32_m1, n32_m1', n32_m1lt, n32_ltm1, n32_10, n32_01, Nat.not_lt_zero, Nat.lt_irrefl, Nat.mul_zero, Nat.zero_mul, Nat.zero_add, Nat.add_zero, Nat.reduceEqDiff, Nat.one_ne_zero, Nat.zero_ne_one, ax_psh_none, ax_psh_some, true_and, and_true, and_false, false_and, not_true_eq_false, not_false_eq_true, true_imp_iff, false_imp_iff, imp_self, or_true, true_or, or_false, false_or, and_self, ite_true, ite_false, if_true, if_false]
          have := ih gi3 o2 (some (.inl (n32 (B (lo + i))))) (Fr_trans fr43 (ch_clk fr3)) hC3 hP3 hPI3 hch3' (by
            show FrV gi3 (if B (lo + i) = p then _ else if okF L W T O dy sl (updB B (lo + i) p) = true then _ else _) _
            rw [if_neg z, show okF L W T O dy sl (updB B (lo + i) p) = false from hok, if_neg (by simp)]
            exact hv3)
          exact this
        | true =>
          simp (disch := omega) only [b_Freeing_choose_133, b_Freeing_choose_136, b32, n32_add, n32_mul, n32_lt, n32_le, n32_eq, n32_clamp, n32_inT, n32_div, n32_rem, n32_m1, n32_m1', n32_m1lt, n32_ltm1, n32_10, n32_01, Nat.not_lt_zero, Nat.lt_irrefl, Nat.mul_zero, Nat.zero_mul, Nat.zero_add, Nat.add_zero, Nat.reduceEqDiff, Nat.one_ne_zero, Nat.zero_ne_one, ax_psh_none, ax_psh_some, true_and, and_true, and_false, false_and, not_true_eq_false, not_false_eq_true, true_imp_iff, false_imp_iff, imp_self, or_true, true_or, or_false, false_or, and_self, ite_true, ite_false, if_true, if_false]
          refine c_ffound (d := d + 4) (r := r ++ [lo + i]) hG hv3 (by omega) (by omega) hch3 ?_
          intro gi4 f4 hv4
          simp only [b_Freeing_choose_140, n32_add, ax_psh_none, ax_psh_some, true_and, and_true, and_false, false_and, not_true_eq_false, not_false_eq_true, true_imp_iff, false_imp_iff, imp_self, or_true, true_or, or_false, false_or, and_self, ite_true, ite_false, if_true, if_false]
          refine ih gi4 _ _ ?_ ?_ ?_ ?_ ?_ ?_
          · refine Fr_trans (Fr_trans fr43 (ch_clk fr3)) (fun s a j q => ?_)
            have := chMod_f q
            exact f4 s a j (by omega) (by omega)
          · exact ClerkOn_of hG hC3 (fun s a j q => f4 s a j (by omega) (by omega))
          · obtain ⟨⟨p0, p1, p4, pW, pT, pw⟩, h2, h3, h54, hb, h55, h56⟩ := hP3
            exact ⟨⟨(f4 _ _ _ (by decide) (by omega)).trans p0, (f4 _ _ _ (by decide) (by omega)).trans p1, (f4 _ _ _ (by decide) (by omega)).trans p4, pW, pT, fun f hf c hc => (f4 _ _ _ (by decide) (by omega)).trans (pw f hf c hc)⟩, (f4 _ _ _ (by decide) (by omega)).trans h2, (f4 _ _ _ (by decide) (by omega)).trans h3, fun c hc => (f4 _ _ _ (by decide) (by omega)).trans (h54 c hc), hb, fun l hl => (f4 _ _ _ (by decide) (by omega)).trans (h55 l hl), fun p hp => (f4 _ _ _ (by decide) (by omega)).trans (h56 p hp)⟩
          · exact fun u hu => PaperInv_of (hPI3 u hu) (fun j => f4 3 u j (by decide) (by omega)) (fun a j => f4 59 a j (by decide) (by omega))
          · exact fun i' hi' => (f4 43 0 i' (by decide) (by omega)).trans (hch3' i' hi')
          · show FrV gi4 (if B (lo + i) = p then _ else if okF L W T O dy sl (updB B (lo + i) p) = true then _ else _) _
            rw [if_neg z, if_pos (show okF L W T O dy sl (updB B (lo + i) p) = true from hok)]
            exact hv4
    · intro gi1 o2 o5 fr hC1 hP1 hPI1 hch1 hv1
      rw [b_Freeing_choose_34, show lo + (W * T - lo) = W * T by omega]
      refine ⟨fun z => absurd z (by rw [n32_lt (by omega) (by omega)]; omega), fun _ => ?_⟩
      rw [b_Freeing_choose_146]
      exact hq gi1 fr hC1 hP1 hPI1 hch1 hv1
  | succ k ihk =>
    intro d dep lo r B x gi Q hlo hr hd hx hC hP hPI h3 h5 hch hv hq
    have hW := hP.1.2.2.2.1
    have hT := hP.1.2.2.2.2.1
    have h64 := wt64 hW.2 hT.2
    have ne0 : ¬ g.1 8 0 0 = none := by rw [g80]; simp
    have ne1 : ¬ g.1 8 0 1 = none := by rw [g81]; simp
    have erid : ax_rid (g.1 8 0 1) = t := by rw [g81]; rfl
    have key := loop_up (n := W * T - lo) (P := fun i => ∀ (gi1 : GI) o2 o5, Fr chMod gi gi1 → ClerkOn gi1 g t W T O dy sl s lw L → Pap gi1 t W T O B → (∀ u, u < 6 → PaperInv gi1 u) → (∀ i, i < dep → gi1 43 0 i = n32 (r.getD i 0)) → FrV gi1 (foldR (fun c y => if B c = p then y else levC (W * T) p (okF L W T O dy sl) (k + 1) (updB B c p) (r ++ [c]) y (c + 1)) x lo i) (dep + (k + 1) + 1) → Runs (d + 6 + k) (m_Freeing_choose, 34, [some (.inr (.inr (some (8, 0)))), some (.inl (n32 dep)), o2, some (.inl (n32 (W * T))), some (.inl (n32 (lo + i))), o5], []) (gi1, g) Q) ?_ ?_
    · rw [show d + 6 + (k + 1) = d + 6 + k + 1 by omega, e_Freeing_choose, b_Freeing_choose_0]
      refine ⟨fun z => absurd z ne0, fun _ => ?_⟩
      rw [b_Freeing_choose_7]
      refine ⟨fun z => absurd z ne1, fun _ => ?_⟩
      rw [b_Freeing_choose_14, h5]
      refine ⟨fun _ => ?_, fun z => absurd z (by rw [n32_lt (by omega) (by omega)]; omega)⟩
      rw [b_Freeing_choose_23, erid]
      refine ⟨g81, ?_⟩
      rw [show d + 6 + k = d + 5 + k + 1 by omega, c_Paper_area _ _ _ _ hP.1.1 hP.1.2.1]
      simp only [b_Freeing_choose_30, ax_psh_none, ax_psh_some, true_and, and_true, and_false, false_and, not_true_eq_false, not_false_eq_true, true_imp_iff, false_imp_iff, imp_self, or_true, true_or, or_false, false_or, and_self, ite_true, ite_false, if_true, if_false]
      rw [show d + 5 + k + 1 = d + 6 + k by omega]
      exact key 0 (Nat.zero_le _) gi _ _ (Fr_refl _ _) hC hP hPI hch hv
    · intro i hi ih gi1 o2 o5 fr hC1 hP1 hPI1 hch1 hv1
      have e3 : gi1 8 0 3 = n32 p := (fr 8 0 3 rfl).trans h3
      have e5 : gi1 8 0 5 = n32 (dep + (k + 1) + 1) := (fr 8 0 5 rfl).trans h5
      have e54 : gi1 54 t (lo + i) = n32 (B (lo + i)) := hP1.2.2.2.1 _ (by omega)
      have hB10 := hP1.2.2.2.2.1 (lo + i) (by omega)
      have hfl : (foldR (fun c y => if B c = p then y else levC (W * T) p (okF L W T O dy sl) (k + 1) (updB B c p) (r ++ [c]) y (c + 1)) x lo i).1 ≤ x.1 + i * (W * T) ^ (k + 1) := foldR_le (fun c y => by
        by_cases z : B c = p
        · simp only [if_pos z]
          omega
        · simp only [if_neg z]
          exact levC_le) i
      have hpw : (W * T) ^ (k + 1 + 1) = (W * T) * (W * T) ^ (k + 1) := by rw [Nat.pow_succ, Nat.mul_comm]
      have hmu : i * (W * T) ^ (k + 1) + (W * T) ^ (k + 1) ≤ (W * T) * (W * T) ^ (k + 1) := by
        rw [← Nat.succ_mul]
        exact Nat.mul_le_mul_right _ (by omega)
      rw [b_Freeing_choose_34]
      refine ⟨fun _ => ?_, fun z => absurd z (by rw [n32_lt (by omega) (by omega)]; omega)⟩
      rw [b_Freeing_choose_40, erid, n32_clamp (by omega), e54, e3]
      refine ⟨g81, G_3_5 hG t, n32_in (by omega) (by omega), fun z => ?_, fun z => ?_⟩
      · rw [n32_eq (by omega) (by omega)] at z
        rw [b_Freeing_choose_61, b_Freeing_choose_140, n32_add]
        refine ih gi1 _ _ fr hC1 hP1 hPI1 hch1 ?_
        show FrV gi1 (if B (lo + i) = p then _ else _) _
        rw [if_pos z]
        exact hv1
      · rw [n32_eq (by omega) (by omega)] at z
        have w5 : ax_wI gi1 43 0 dep (n32 (lo + i)) 8 0 5 = n32 (dep + (k + 1) + 1) := by rw [wI_ne (by decide), e5]
        rw [b_Freeing_choose_64, n32_clamp (by omega), w5, n32_add]
        refine ⟨G_8_8 hG 0, n32_in (by omega) (by omega), fun _ => ?_, fun y => absurd (by rw [n32_lt (by omega) (by omega)]; omega) y⟩
        have f43 : ∀ s a j, s ≠ 43 → ax_wI gi1 43 0 dep (n32 (lo + i)) s a j = gi1 s a j := fun s a j q => wI_ne q _ _ _ _ _
        have g43 : ∀ j, ax_wI gi1 43 0 dep (n32 (lo + i)) 43 0 j = if j = dep then n32 (lo + i) else gi1 43 0 j := fun j => by
          rw [wI_at]
          by_cases q : j = dep
          · rw [if_pos ⟨rfl, rfl, q⟩, if_pos q]
          · rw [if_neg (by omega), if_neg q]
        have fr43 : Fr chMod gi (ax_wI gi1 43 0 dep (n32 (lo + i))) := Fr_wI fr rfl
        generalize ax_wI gi1 43 0 dep (n32 (lo + i)) = gi2 at *
        have hC2 : ClerkOn gi2 g t W T O dy sl s lw L := ClerkOn_of hG hC1 (fun s a j q => f43 s a j (by omega))
        have hP2 : Pap gi2 t W T O B := by
          obtain ⟨⟨p0, p1, p4, pW, pT, pw⟩, h2, h3, h54, hb, h55, h56⟩ := hP1
          exact ⟨⟨(f43 _ _ _ (by decide)).trans p0, (f43 _ _ _ (by decide)).trans p1, (f43 _ _ _ (by decide)).trans p4, pW, pT, fun f hf c hc => (f43 _ _ _ (by decide)).trans (pw f hf c hc)⟩, (f43 _ _ _ (by decide)).trans h2, (f43 _ _ _ (by decide)).trans h3, fun c hc => (f43 _ _ _ (by decide)).trans (h54 c hc), hb, fun l hl => (f43 _ _ _ (by decide)).trans (h55 l hl), fun p hp => (f43 _ _ _ (by decide)).trans (h56 p hp)⟩
        have hPI2 : ∀ u, u < 6 → PaperInv gi2 u := fun u hu => PaperInv_of (hPI1 u hu) (fun j => f43 3 u j (by decide)) (fun a j => f43 59 a j (by decide))
        have hv2 := FrV_of hv1 (f43 8 0 7 (by decide)) (fun i => f43 44 0 i (by decide))
        have hch2 : ∀ i', i' < dep + 1 → gi2 43 0 i' = n32 ((r ++ [lo + i]).getD i' 0) := fun i' hi' => by
          rw [g43, getD_app]
          by_cases q : i' = dep
          · rw [if_pos q, if_neg (by omega), if_pos (by omega)]
          · rw [if_neg q, if_pos (by omega)]
            exact hch1 i' (by omega)
        have e3' : gi2 8 0 3 = n32 p := (f43 8 0 3 (by decide)).trans e3
        have e5' : gi2 8 0 5 = n32 (dep + (k + 1) + 1) := (f43 8 0 5 (by decide)).trans e5
        rw [b_Freeing_choose_82, erid, e3']
        refine ⟨g81, ?_⟩
        rw [show d + 6 + k = d + 4 + k + 2 by omega]
        refine c_put (d := d + 4 + k) hG ht6 hP2 (by omega) hp ?_
        intro gi3 ho3 hP3
        rw [show d + 4 + k + 2 = d + 6 + k by omega]
        simp only [b_Freeing_choose_95, n32_add, ax_psh_none, ax_psh_some, true_and, and_true, and_false, false_and, not_true_eq_false, not_false_eq_true, true_imp_iff, false_imp_iff, imp_self, or_true, true_or, or_false, false_or, and_self, ite_true, ite_false, if_true, if_false]
        have o3 : ∀ s a j, ¬ (s = 3 ∨ (54 ≤ s ∧ s ≤ 57) ∨ s = 59) → gi3 s a j = gi2 s a j := fun s a j q => ho3 s a j (by omega) (by omega) (by omega)
        refine ihk d (dep + 1) (lo + i + 1) (r ++ [lo + i]) (updB B (lo + i) p) (foldR (fun c y => if B c = p then y else levC (W * T) p (okF L W T O dy sl) (k + 1) (updB B c p) (r ++ [c]) y (c + 1)) x lo i) gi3 _ (by omega) (by simp; omega) (by omega) (by omega) (ClerkOn_of hG hC2 (fun s a j q => o3 s a j (by omega))) hP3 (PI_P hPI2 ho3 (Pap_inv hP3)) ((o3 8 0 3 (by omega)).trans e3') (by rw [o3 8 0 5 (by omega), e5']; congr 1; omega) (fun i' hi' => (o3 43 0 i' (by omega)).trans (hch2 i' hi')) (by rw [show dep + 1 + k + 1 = dep + (k + 1) + 1 by omega]; exact FrV_of hv2 (o3 8 0 7 (by omega)) (fun i => o3 44 0 i (by omega))) ?_
        intro gi4 fr4 hC4 hP4 hPI4 hch4 hv4
        simp only [ax_psh_none]
        rw [b_Freeing_choose_106, erid]
        refine ⟨g81, ?_⟩
        rw [show d + 6 + k = d + 4 + k + 2 by omega]
        refine c_put (d := d + 4 + k) hG ht6 hP4 (by omega) hB10 ?_
        intro gi5 ho5 hP5
        rw [show d + 4 + k + 2 = d + 6 + k by omega]
        simp only [b_Freeing_choose_117, b_Freeing_choose_140, n32_add, ax_psh_none, ax_psh_some, true_and, and_true, and_false, false_and, not_true_eq_false, not_false_eq_true, true_imp_iff, false_imp_iff, imp_self, or_true, true_or, or_false, false_or, and_self, ite_true, ite_false, if_true, if_false]
        have o5 : ∀ s a j, ¬ (s = 3 ∨ (54 ≤ s ∧ s ≤ 57) ∨ s = 59) → gi5 s a j = gi4 s a j := fun s a j q => ho5 s a j (by omega) (by omega) (by omega)
        rw [updB_upd, updB_same rfl] at hP5
        refine ih gi5 _ _ (Fr_trans (Fr_trans (Fr_trans fr43 (ch_P ho3)) fr4) (ch_P ho5)) (ClerkOn_of hG hC4 (fun s a j q => o5 s a j (by omega))) hP5 (PI_P hPI4 ho5 (Pap_inv hP5)) (fun i' hi' => ?_) ?_
        · rw [o5 43 0 i' (by omega), hch4 i' (by omega), getD_app, if_pos (by omega)]
        · show FrV gi5 (if B (lo + i) = p then _ else _) _
          rw [if_neg z]
          rw [show dep + 1 + k + 1 = dep + (k + 1) + 1 by omega] at hv4
          exact FrV_of hv4 (o5 8 0 7 (by omega)) (fun i => o5 44 0 i (by omega))
    · intro gi1 o2 o5 fr hC1 hP1 hPI1 hch1 hv1
      rw [b_Freeing_choose_34, show lo + (W * T - lo) = W * T by omega]
      refine ⟨fun z => absurd z (by rw [n32_lt (by omega) (by omega)]; omega), fun _ => ?_⟩
      rw [b_Freeing_choose_146]
      exact hq gi1 fr hC1 hP1 hPI1 hch1 hv1
