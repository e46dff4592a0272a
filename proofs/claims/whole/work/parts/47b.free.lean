/-! free: what is found; the class seeks; the reference goes through all -/
def frAt (n p : Nat) (ok : (Nat → Nat) → Bool) (b : Nat → Nat) : Nat → Nat × FS
  | 0 => (0, levM n p ok 0 b [] (0, []) 0)
  | j + 1 => if (frAt n p ok b j).2.1 = 0 then (j + 1, levM n p ok (j + 1) b [] (0, []) 0) else frAt n p ok b j
theorem frAt_zero {n p : Nat} {ok : (Nat → Nat) → Bool} {b : Nat → Nat} : ∀ {j : Nat}, (frAt n p ok b j).2.1 = 0 → (frAt n p ok b j).1 = j ∧ NonF n p ok j b 0 ∧ (frAt n p ok b j).2 = (0, [])
  | 0, h => by
    have h : (levM n p ok 0 b [] (0, []) 0).1 = 0 := h
    have hn := levM_zero h
    exact ⟨rfl, hn, levM_non hn⟩
  | j + 1, h => by
    unfold frAt at h ⊢
    by_cases z : (frAt n p ok b j).2.1 = 0
    · rw [if_pos z] at h ⊢
      have hn := levM_zero (x := (0, [])) h
      exact ⟨rfl, hn, levM_non hn⟩
    · rw [if_neg z] at h
      exact absurd h z
theorem frAt_le {n p : Nat} {ok : (Nat → Nat) → Bool} {b : Nat → Nat} (hn : n ≤ 64) : ∀ {j : Nat}, j ≤ 3 → (frAt n p ok b j).2.1 ≤ 262144 ∧ (frAt n p ok b j).1 ≤ j
  | 0, _ => by
    have := levM_le (n := n) (p := p) (ok := ok) (k := 0) (B := b) (r := []) (x := (0, [])) (lo := 0)
    have e : n ^ 0 = 1 := rfl
    refine ⟨?_, Nat.le_refl _⟩
    show (levM n p ok 0 b [] (0, []) 0).1 ≤ _
    simp only at this
    omega
  | j + 1, hj => by
    have ih := frAt_le (p := p) (ok := ok) (b := b) hn (show j ≤ 3 by omega)
    unfold frAt
    split
    · have := levM_le (n := n) (p := p) (ok := ok) (k := j + 1) (B := b) (r := []) (x := (0, [])) (lo := 0)
      have e : n ^ (j + 1) ≤ 64 ^ 3 := Nat.le_trans (Nat.pow_le_pow_left hn _) (Nat.pow_le_pow_right (by omega) hj)
      have e2 : (64 : Nat) ^ 3 = 262144 := by decide
      refine ⟨?_, Nat.le_refl _⟩
      simp only at this ⊢
      omega
    · exact ⟨ih.1, by omega⟩
/-- the fewest, as it is told -/
def frW (x : Nat × FS) : Int32 := if x.2.1 = 0 then -1 else n32 x.1
def FreeV (gi : GI) (x : Nat × FS) : Prop := gi 8 0 6 = frW x ∧ gi 8 0 7 = n32 x.2.1 ∧ (0 < x.2.1 → ∀ i, i < x.1 → gi 44 0 i = n32 (x.2.2.getD i 0))
def FreeM (gi : GI) (x : Nat × FS) : Prop := gi 12 0 32 = frW x ∧ gi 12 0 33 = n32 x.2.1 ∧ (0 < x.2.1 → ∀ i, i < x.1 → gi 77 0 i = n32 (x.2.2.getD i 0))
theorem ClerkOn_g {gi : GI} {g g' : AG} {t W T O dy sl s : Nat} {lw : AR} {L : Option (List PC)} (h : ClerkOn gi g t W T O dy sl s lw L) (hg : GF g g') (h71 : g'.1 7 0 1 = g.1 7 0 1) (h72 : g'.1 7 0 2 = g.1 7 0 2) : ClerkOn gi g' t W T O dy sl s lw L := by
  obtain ⟨⟨h1, h1'⟩, h2, h3⟩ := h
  exact ⟨⟨h71.trans h1, h72.trans h1'⟩, LawRef_fr h2 (fun _ _ _ _ => rfl) hg, h3⟩
def skMod (s j : Nat) : Bool := chMod s j || (s == 8 && (j == 3 || j == 5 || j == 6))
theorem sk_ch {gi gi' : GI} (h : Fr chMod gi gi') : Fr skMod gi gi' := Fr_mono h (fun s j q => by
  unfold skMod at q
  rw [Bool.or_eq_false_iff] at q
  exact q.1)
theorem c_seek {d t W T O dy sl s p : Nat} {b : Nat → Nat} {lw : AR} {L : Option (List PC)} {gi : GI} {g : AG} {Q : Option AV → AH → Prop} (hG : GOK g) (ht6 : t < 6) (hp : p < 10) (hC : ClerkOn gi g t W T O dy sl s lw L) (hP : Pap gi t W T O b) (hPI : ∀ u, u < 6 → PaperInv gi u)
    (hq : ∀ gi' g', Fr skMod gi gi' → GF g g' → (∀ u, u < 6 → PaperInv gi' u) → Stamps gi' s → gi' 8 0 3 = n32 p → FreeV gi' (frAt (W * T) p (okF L W T O dy sl) b 3) → Q none (gi', g')) :
    ax_call (d + 9) m_Freeing_seek [.inr (.inr (some (8, 0))), .inr (.inr (some (7, 0))), .inr (.inr (some (3, t))), .inl (n32 p)] (gi, g) Q := by
  obtain ⟨g2, eg2⟩ : ∃ g2 : AG, g2 = (ax_wR (ax_wR g.1 8 0 0 (some (7, 0))) 8 0 1 (some (3, t)), g.2) := ⟨_, rfl⟩
  have g2a : ∀ s a j, ¬ (s = 8 ∧ (j = 0 ∨ j = 1)) → g2.1 s a j = g.1 s a j := fun s a j q => by
    rw [eg2]
    show ax_wR (ax_wR g.1 8 0 0 (some (7, 0))) 8 0 1 (some (3, t)) s a j = _
    rw [wR_at, if_neg (by omega), wR_at, if_neg (by omega)]
  have g80 : g2.1 8 0 0 = some (7, 0) := by
    rw [eg2]
    show ax_wR (ax_wR g.1 8 0 0 (some (7, 0))) 8 0 1 (some (3, t)) 8 0 0 = _
    rw [wR_at, if_neg (by omega), wR_at, if_pos ⟨rfl, rfl, rfl⟩]
  have g81 : g2.1 8 0 1 = some (3, t) := by
    rw [eg2]
    show ax_wR (ax_wR g.1 8 0 0 (some (7, 0))) 8 0 1 (some (3, t)) 8 0 1 = _
    rw [wR_at, if_pos ⟨rfl, rfl, rfl⟩]
  have hG2 : GOK g2 := GOK_of2 hG (fun s a j _ q _ => g2a s a j q)
  have gf : GF g g2 := ⟨fun s a j _ q _ => g2a s a j (by omega), hG2, by rw [eg2]⟩
  have hC2 := ClerkOn_g hC gf (g2a 7 0 1 (by omega)) (g2a 7 0 2 (by omega))
  have e1 : (ax_wR (ax_wR g.1 8 0 0 (some (7, 0))) 8 0 1 (some (3, t)), g.2) = g2 := eg2.symm
  have e2 : ax_wR (ax_wR g.1 8 0 0 (some (7, 0))) 8 0 1 (some (3, t)) 8 0 0 = some (7, 0) := by
    rw [wR_at, if_neg (by omega), wR_at, if_pos ⟨rfl, rfl, rfl⟩]
  have rid : ax_rid (some (7, 0)) = 0 := rfl
  have hW := hP.1.2.2.2.1
  have hT := hP.1.2.2.2.2.1
  have h64 := wt64 hW.2 hT.2
  rw [e_Freeing_seek, b_Freeing_seek_0, e2, rid, e1]
  refine ⟨rfl, ?_⟩
  have f3 : ∀ s a j, ¬ (s = 8 ∧ a = 0 ∧ j = 3) → ax_wI gi 8 0 3 (n32 p) s a j = gi s a j := fun s a j q => by rw [wI_at, if_neg q]
  have v3 : ax_wI gi 8 0 3 (n32 p) 8 0 3 = n32 p := wI_self _ _ _ _ _
  have fr3 : Fr skMod gi (ax_wI gi 8 0 3 (n32 p)) := Fr_wI (Fr_refl _ _) rfl
  generalize ax_wI gi 8 0 3 (n32 p) = gi1 at *
  have papf : ∀ (ga gb : GI), Pap ga t W T O b → (∀ s a j, s ≠ 8 → gb s a j = ga s a j) → Pap gb t W T O b := fun ga gb hp f => by
    obtain ⟨⟨p0, p1, p4, pW, pT, pw⟩, h2, h3, h54, hb, h55, h56⟩ := hp
    exact ⟨⟨(f _ _ _ (by decide)).trans p0, (f _ _ _ (by decide)).trans p1, (f _ _ _ (by decide)).trans p4, pW, pT, fun k hk c hc => (f _ _ _ (by decide)).trans (pw k hk c hc)⟩, (f _ _ _ (by decide)).trans h2, (f _ _ _ (by decide)).trans h3, fun c hc => (f _ _ _ (by decide)).trans (h54 c hc), hb, fun l hl => (f _ _ _ (by decide)).trans (h55 l hl), fun p hp => (f _ _ _ (by decide)).trans (h56 p hp)⟩
  have hC1 : ClerkOn gi1 g2 t W T O dy sl s lw L := ClerkOn_of hG2 hC2 (fun s a j q => f3 s a j (by omega))
  have hP1 : Pap gi1 t W T O b := papf gi gi1 hP (fun s a j q => f3 s a j (by omega))
  have hPI1 : ∀ u, u < 6 → PaperInv gi1 u := fun u hu => PaperInv_of (hPI u hu) (fun j => f3 3 u j (by omega)) (fun a j => f3 59 a j (by omega))
  refine c_owed (d := d + 3) hG2 hC1 hP1 ?_
  intro gi2 fr2 hC3
  have hP2 := Pap_clk hP1 fr2
  have hPI2 : ∀ u, u < 6 → PaperInv gi2 u := fun u hu => PaperInv_of (hPI1 u hu) (fun j => fr2 3 u j rfl) (fun a j => fr2 59 a j rfl)
  have hol : owesF L W T O dy sl b ≤ 6 * 999 := by
    unfold owesF
    have := sumN_le999 (f := fun l => if offF W T b l ≤ sl then txO L (envF l (offF W T b l) W T O dy (ptsF (W * T) b)) else 0) (fun i => by
      split
      · exact txO_le _ _
      · omega) (likes W T)
    have lk := likes_36 W T
    rcases lk with e | e <;> rw [e] at this ⊢ <;> omega
  -- the rest, from the loop on
  have key : ∀ j, j ≤ 3 → ∀ (gi3 : GI) o1 o2 o3, Fr skMod gi gi3 → ClerkOn gi3 g2 t W T O dy sl s lw L → Pap gi3 t W T O b → (∀ u, u < 6 → PaperInv gi3 u) → gi3 8 0 3 = n32 p → gi3 8 0 5 = n32 (frAt (W * T) p (okF L W T O dy sl) b j).1 → FrV gi3 (frAt (W * T) p (okF L W T O dy sl) b j).2 (frAt (W * T) p (okF L W T O dy sl) b j).1 → Runs (d + 8) (m_Freeing_seek, 39, [some (.inr (.inr (some (8, 0)))), o1, o2, o3], []) (gi3, g2) Q := by
    have fin : ∀ (gi3 : GI) o1 o2 o3, Fr skMod gi gi3 → ClerkOn gi3 g2 t W T O dy sl s lw L → (∀ u, u < 6 → PaperInv gi3 u) → gi3 8 0 3 = n32 p → gi3 8 0 5 = n32 (frAt (W * T) p (okF L W T O dy sl) b 3).1 → FrV gi3 (frAt (W * T) p (okF L W T O dy sl) b 3).2 (frAt (W * T) p (okF L W T O dy sl) b 3).1 → Runs (d + 8) (m_Freeing_seek, 73, [some (.inr (.inr (some (8, 0)))), o1, o2, o3], []) (gi3, g2) Q := by
      intro gi3 o1 o2 o3 fr hCx hPIx h3x h5x hvx
      have hle := frAt_le (p := p) (ok := okF L W T O dy sl) (b := b) h64 (Nat.le_refl 3)
      have done : Q none (ax_wI gi3 8 0 6 (frW (frAt (W * T) p (okF L W T O dy sl) b 3)), g2) := by
        refine hq _ g2 (Fr_wI fr rfl) gf (fun u hu => PaperInv_of (hPIx u hu) (fun j => wI_ne (by decide) _ _ _ _ _) (fun a j => wI_ne (by decide) _ _ _ _ _)) (Stamps_of hCx.2.2.2.1 (wI_ne (by decide) _ _ _ _ _) (fun j => wI_ne (by decide) _ _ _ _ _)) (by rw [wI_at, if_neg (by omega), h3x]) ⟨wI_self _ _ _ _ _, by rw [wI_at, if_neg (by omega), hvx.1], fun q i hi => by rw [wI_ne (by decide)]; exact hvx.2 q i hi⟩
      rw [b_Freeing_seek_73, hvx.1]
      by_cases z : (frAt (W * T) p (okF L W T O dy sl) b 3).2.1 = 0
      · have e : frW (frAt (W * T) p (okF L W T O dy sl) b 3) = -1 := if_pos z
        rw [e] at done
        refine ⟨fun q => absurd q (by rw [n32_lt (by omega) (by omega)]; omega), fun _ => ?_⟩
        rw [b_Freeing_seek_88, b_Freeing_seek_89]
        exact done
      · have e : frW (frAt (W * T) p (okF L W T O dy sl) b 3) = n32 (frAt (W * T) p (okF L W T O dy sl) b 3).1 := if_neg z
        rw [e] at done
        refine ⟨fun _ => ?_, fun q => absurd (by rw [n32_lt (by omega) (by omega)]; omega) q⟩
        rw [b_Freeing_seek_81, b_Freeing_seek_89, h5x]
        exact done
    intro j hj
    obtain ⟨k, rfl⟩ : ∃ k, j = 3 - k := ⟨3 - j, by omega⟩
    clear hj
    induction k with
    | zero =>
      rw [show 3 - 0 = 3 from rfl]
      intro gi3 o1 o2 o3 fr hCx hPx hPIx h3x h5x hvx
      have hle := frAt_le (p := p) (ok := okF L W T O dy sl) (b := b) h64 (Nat.le_refl 3)
      rw [b_Freeing_seek_39, hvx.1]
      refine ⟨fun z => ?_, fun _ => fin gi3 _ _ _ fr hCx hPIx h3x h5x hvx⟩
      rw [n32_eq (by omega) (by omega)] at z
      rw [b_Freeing_seek_46, h5x, (frAt_zero z).1]
      refine ⟨fun y => absurd y (by rw [n32_lt (by omega) (by omega)]; omega), fun _ => fin gi3 _ _ _ fr hCx hPIx h3x h5x hvx⟩
    | succ k ih =>
      by_cases hk3 : 3 ≤ k
      · rw [show 3 - (k + 1) = 3 - k by omega]
        exact ih
      · rw [show 3 - k = 3 - (k + 1) + 1 by omega] at ih
        generalize hj : 3 - (k + 1) = j at *
        have hj3 : j + 1 ≤ 3 := by omega
        intro gi3 o1 o2 o3 fr hCx hPx hPIx h3x h5x hvx
        have hle := frAt_le (p := p) (ok := okF L W T O dy sl) (b := b) h64 (show j ≤ 3 by omega)
        rw [b_Freeing_seek_39, hvx.1]
        refine ⟨fun z => ?_, fun z => ?_⟩
        · rw [n32_eq (by omega) (by omega)] at z
          obtain ⟨z1, z2, z3⟩ := frAt_zero z
          rw [b_Freeing_seek_46, h5x, z1]
          refine ⟨fun _ => ?_, fun y => absurd (by rw [n32_lt (by omega) (by omega)]; omega) y⟩
          rw [b_Freeing_seek_54, h5x, z1, n32_add]
          have hw5 : ∀ s a i, ¬ (s = 8 ∧ a = 0 ∧ i = 5) → ax_wI gi3 8 0 5 (n32 (j + 1)) s a i = gi3 s a i := fun s a i q => by rw [wI_at, if_neg q]
          have hv5 : ax_wI gi3 8 0 5 (n32 (j + 1)) 8 0 5 = n32 (j + 1) := wI_self _ _ _ _ _
          have fr5 : Fr skMod gi (ax_wI gi3 8 0 5 (n32 (j + 1))) := Fr_wI fr rfl
          generalize ax_wI gi3 8 0 5 (n32 (j + 1)) = gi4 at *
          have hpow : (W * T) ^ (j + 1) ≤ 64 ^ 3 := Nat.le_trans (Nat.pow_le_pow_left h64 _) (Nat.pow_le_pow_right (by omega) hj3)
          have e643 : (64 : Nat) ^ 3 = 262144 := by decide
          have hfz : gi4 8 0 7 = n32 0 := by
            rw [hw5 8 0 7 (by omega), hvx.1, z]
          rw [show d + 8 = (d + 2 - j) + 6 + j by omega]
          refine c_choose (s := s) (lw := lw) (L := L) (O := O) (dy := dy) (sl := sl) hG2 ht6 hp g80 g81 j (d + 2 - j) 0 0 [] b (0, []) gi4 _ (by omega) rfl (by omega) (by simp only; omega) (ClerkOn_of hG2 hCx (fun s a i q => hw5 s a i (by omega))) (papf gi3 gi4 hPx (fun s a i q => hw5 s a i (by omega))) (fun u hu => PaperInv_of (hPIx u hu) (fun i => hw5 3 u i (by omega)) (fun a i => hw5 59 a i (by omega))) ((hw5 8 0 3 (by omega)).trans h3x) (by rw [hv5]; congr 1; omega) (fun i hi => absurd hi (Nat.not_lt_zero i)) ⟨hfz, fun q => absurd q (Nat.lt_irrefl 0)⟩ ?_
          intro gi5 fr5' hC5 hP5 hPI5 hch5 hv5'
          rw [show (d + 2 - j) + 6 + j = d + 8 by omega]
          simp only [b_Freeing_seek_70, ax_psh_none, ax_psh_some, true_and, and_true, and_false, false_and, not_true_eq_false, not_false_eq_true, true_imp_iff, false_imp_iff, imp_self, or_true, true_or, or_false, false_or, and_self, ite_true, ite_false, if_true, if_false]
          have eAt : frAt (W * T) p (okF L W T O dy sl) b (j + 1) = (j + 1, levM (W * T) p (okF L W T O dy sl) (j + 1) b [] (0, []) 0) := by
            show (if (frAt (W * T) p (okF L W T O dy sl) b j).2.1 = 0 then _ else _) = _
            rw [if_pos z]
          refine ih gi5 _ _ _ (Fr_trans fr5 (sk_ch fr5')) hC5 hP5 hPI5 ((fr5' 8 0 3 rfl).trans ((hw5 8 0 3 (by omega)).trans h3x)) ?_ ?_
          · rw [eAt, fr5' 8 0 5 rfl, hv5]
          · rw [eAt]
            rw [lev_skip z2, show 0 + j + 1 = j + 1 by omega] at hv5'
            exact hv5'
        · rw [n32_eq (by omega) (by omega)] at z
          have eAt : frAt (W * T) p (okF L W T O dy sl) b (j + 1) = frAt (W * T) p (okF L W T O dy sl) b j := by
            show (if (frAt (W * T) p (okF L W T O dy sl) b j).2.1 = 0 then _ else _) = _
            rw [if_neg z]
          have := ih gi3 o1 o2 o3 fr hCx hPx hPIx h3x (by rw [eAt]; exact h5x) (by rw [eAt]; exact hvx)
          rw [b_Freeing_seek_39, hvx.1] at this
          exact this.2 (by rw [n32_eq (by omega) (by omega)]; exact z)
  have fr12 : Fr skMod gi gi2 := Fr_trans fr3 (sk_ch (ch_clk fr2))
  have stp : ∀ (x : FS), levM (W * T) p (okF L W T O dy sl) 0 b [] (0, []) 0 = x → Runs (d + 8) (m_Freeing_seek, 39, [some (.inr (.inr (some (8, 0)))), some (.inr (.inr (some (7, 0)))), some (.inr (.inr (some (3, t)))), some (.inl (n32 p))], []) (ax_wI (ax_wI gi2 8 0 7 (n32 x.1)) 8 0 5 (n32 0), g2) Q := by
    intro x hx
    have f : ∀ s a i, ¬ (s = 8 ∧ a = 0 ∧ (i = 5 ∨ i = 7)) → ax_wI (ax_wI gi2 8 0 7 (n32 x.1)) 8 0 5 (n32 0) s a i = gi2 s a i := fun s a i q => by rw [wI_at, if_neg (by omega), wI_at, if_neg (by omega)]
    refine key 0 (by omega) _ _ _ _ (Fr_wI (Fr_wI fr12 rfl) rfl) (ClerkOn_of hG2 hC3 (fun s a i q => f s a i (by omega))) (papf gi2 _ hP2 (fun s a i q => f s a i (by omega))) (fun u hu => PaperInv_of (hPI2 u hu) (fun i => f 3 u i (by omega)) (fun a i => f 59 a i (by omega))) (by rw [f 8 0 3 (by omega), fr2 8 0 3 rfl, v3]) (wI_self _ _ _ _ _) ⟨?_, fun _ i hi => absurd hi (Nat.not_lt_zero i)⟩
    rw [wI_at, if_neg (by omega), wI_self]
    show n32 x.1 = n32 (levM (W * T) p (okF L W T O dy sl) 0 b [] (0, []) 0).1
    rw [hx]
  simp only [ax_psh_some]
  rw [b_Freeing_seek_23]
  refine ⟨fun z => ?_, fun z => ?_⟩
  · rw [n32_eq (by omega) (by omega)] at z
    rw [b_Freeing_seek_26, b_Freeing_seek_31]
    refine stp (1, []) ?_
    show (if decide (owesF L W T O dy sl b = 0) = true then fsUp (0, []) [] else (0, [])) = _
    rw [decide_eq_true z, if_pos rfl]
    rfl
  · rw [n32_eq (by omega) (by omega)] at z
    rw [b_Freeing_seek_30, b_Freeing_seek_31]
    refine stp (0, []) ?_
    show (if decide (owesF L W T O dy sl b = 0) = true then fsUp (0, []) [] else (0, [])) = _
    rw [decide_eq_false z, if_neg (by simp)]
