/-! free: the reference goes through all -/
def MFr (gi : GI) (t W T O dy sl : Nat) (L : Option (List PC)) (B : Nat → Nat) : Prop := Laid gi t W T B ∧ LawM gi L ∧ gi 12 0 28 = n32 dy ∧ gi 64 0 (132 * t + 2) = n32 O ∧ gi 64 0 792 = n32 sl ∧ (1 ≤ W ∧ 1 ≤ T ∧ O ≤ 5 ∧ dy ≤ 1000 ∧ sl ≤ 1000)
def mfMod (s j : Nat) : Bool := (s == 12 && (j == 19 || j == 20 || j == 21 || j == 32 || j == 33)) || s == 73 || s == 74 || s == 77
theorem mfMod_f {s j : Nat} (h : mfMod s j = false) : ¬ ((s = 12 ∧ (j = 19 ∨ j = 20 ∨ j = 21 ∨ j = 32 ∨ j = 33)) ∨ s = 73 ∨ s = 74 ∨ s = 77) := by
  unfold mfMod at h
  rw [← Bool.not_eq_true] at h
  simp only [Bool.or_eq_true, Bool.and_eq_true, beq_iff_eq] at h
  omega
theorem mf_t {gi gi' : GI} (h : Fr taxMod gi gi') : Fr mfMod gi gi' := Fr_mono h (fun s j q => taxMod_no (by have := mfMod_f q; omega))
theorem MFr_of {gi gi' : GI} {t W T O dy sl : Nat} {L : Option (List PC)} {B : Nat → Nat} (h : MFr gi t W T O dy sl L B) (h12 : ∀ j, 24 ≤ j → j ≤ 28 → gi' 12 0 j = gi 12 0 j) (h64 : ∀ j, gi' 64 0 j = gi 64 0 j) (h74 : ∀ j, gi' 74 0 j = gi 74 0 j) : MFr gi' t W T O dy sl L B := by
  obtain ⟨⟨a1, a2, a3, a4, a5, a6, a7⟩, hL, h28, hO, hs, hb⟩ := h
  exact ⟨⟨(h12 24 (by omega) (by omega)).trans a1, (h12 25 (by omega) (by omega)).trans a2, (h12 26 (by omega) (by omega)).trans a3, a4, a5, a6, fun c hc => by rw [h74]; exact a7 c hc⟩, LawM_fr hL (h12 27 (by omega) (by omega)) h64, (h12 28 (by omega) (by omega)).trans h28, (h64 _).trans hO, (h64 _).trans hs, hb⟩
theorem MFr_wI {gi : GI} {t W T O dy sl c p : Nat} {L : Option (List PC)} {B : Nat → Nat} (h : MFr gi t W T O dy sl L B) (hp : p < 10) : MFr (ax_wI gi 74 0 c (n32 p)) t W T O dy sl L (updB B c p) := by
  obtain ⟨⟨a1, a2, a3, a4, a5, a6, a7⟩, hL, h28, hO, hs, hb⟩ := h
  refine ⟨⟨(wI_ne (by decide) _ _ _ _ _).trans a1, (wI_ne (by decide) _ _ _ _ _).trans a2, (wI_ne (by decide) _ _ _ _ _).trans a3, a4, a5, a6, fun c' hc' => ?_⟩, LawM_fr hL (wI_ne (by decide) _ _ _ _ _) (fun j => wI_ne (by decide) _ _ _ _ _), (wI_ne (by decide) _ _ _ _ _).trans h28, (wI_ne (by decide) _ _ _ _ _).trans hO, (wI_ne (by decide) _ _ _ _ _).trans hs, hb⟩
  rw [wI_at]
  unfold updB
  by_cases z : c' = c
  · rw [if_pos ⟨rfl, rfl, z⟩, if_pos z]
    exact ⟨rfl, hp⟩
  · rw [if_neg (by omega), if_neg z]
    exact a7 c' hc'
def MFV (gi : GI) (w : Nat) (x : FS) : Prop := gi 12 0 33 = n32 x.1 ∧ (0 < x.1 → gi 12 0 32 = n32 w ∧ ∀ i, i < w → gi 77 0 i = n32 (x.2.getD i 0)) ∧ (x.1 = 0 → gi 12 0 32 = -1)
theorem MFV_of {gi gi' : GI} {w : Nat} {x : FS} (h : MFV gi w x) (h32 : gi' 12 0 32 = gi 12 0 32) (h33 : gi' 12 0 33 = gi 12 0 33) (h77 : ∀ i, gi' 77 0 i = gi 77 0 i) : MFV gi' w x := ⟨h33.trans h.1, fun q => ⟨h32.trans (h.2.1 q).1, fun i hi => (h77 i).trans ((h.2.1 q).2 i hi)⟩, fun q => h32.trans (h.2.2 q)⟩
theorem c_M_found {d t W T O dy sl w : Nat} {L : Option (List PC)} {B : Nat → Nat} {r : List Nat} {x : FS} {a b c : Int32} {gi : GI} {g : AG} {Q : Option AV → AH → Prop} (hG : GOK g) (h : MFr gi t W T O dy sl L B) (hv : MFV gi w x) (hx : x.1 < 1000000) (hw : w ≤ 3) (h0 : 0 < w → a = n32 (r.getD 0 0)) (h1 : 1 < w → b = n32 (r.getD 1 0)) (h2 : 2 < w → c = n32 (r.getD 2 0))
    (hq : ∀ gi', Fr mfMod gi gi' → MFr gi' t W T O dy sl L B → MFV gi' w (if okF L W T O dy sl B = true then fsUp x r else x) → Q none (gi', g)) :
    ax_call (d + 48) m_M_found [.inr (.inr (some (12, 0))), .inl (n32 w), .inl a, .inl b, .inl c] (gi, g) Q := by
  have h' := h
  obtain ⟨hl, hL, h28, hO, hs, hW1, hT1, hO5, hdy, hsl⟩ := h
  have c0 : (n32 0).toNatClampNeg = 0 := by decide
  have c1 : (n32 1).toNatClampNeg = 1 := by decide
  have c2 : (n32 2).toNatClampNeg = 2 := by decide
  have lk := likes_36 W T
  have hol : owesF L W T O dy sl B ≤ 6 * 999 := by
    unfold owesF
    have := sumN_le999 (f := fun l => if offF W T B l ≤ sl then txO L (envF l (offF W T B l) W T O dy (ptsF (W * T) B)) else 0) (fun i => by
      split
      · exact txO_le _ _
      · omega) (likes W T)
    rcases lk with e | e <;> rw [e] at this ⊢ <;> omega
  rw [e_M_found, b_M_found_0]
  refine c_M_owesNow (D := d + 47) (by omega) hG hl hW1 hT1 hO hO5 h28 hdy hL hs hsl ?_
  intro gi1 fr1
  have fr1' := mf_t fr1
  have hm1 : MFr gi1 t W T O dy sl L B := MFr_of h' (fun j q1 q2 => fr1 12 0 j (taxMod_no (by omega))) (fun j => fr1 64 0 j rfl) (fun j => fr1 74 0 j rfl)
  have hv1 : MFV gi1 w x := MFV_of hv (fr1 12 0 32 rfl) (fr1 12 0 33 rfl) (fun i => fr1 77 0 i rfl)
  simp only [ax_psh_some]
  rw [b_M_found_4]
  refine ⟨fun z => ?_, fun z => ?_⟩
  · rw [n32_lt (by omega) (by omega)] at z
    rw [b_M_found_7]
    refine hq gi1 fr1' hm1 ?_
    rw [show okF L W T O dy sl B = false from decide_eq_false (by omega), if_neg (by simp)]
    exact hv1
  · rw [n32_lt (by omega) (by omega)] at z
    have hok : okF L W T O dy sl B = true := decide_eq_true (by omega)
    have fin : ∀ gi2 : GI, Fr mfMod gi gi2 → MFr gi2 t W T O dy sl L B → gi2 12 0 33 = n32 x.1 → gi2 12 0 32 = n32 w → (∀ i, i < w → gi2 77 0 i = n32 ((if x.1 = 0 then r else x.2).getD i 0)) → Runs (d + 47) (m_M_found, 42, [some (.inr (.inr (some (12, 0)))), some (.inl (n32 w)), some (.inl a), some (.inl b), some (.inl c)], []) (gi2, g) Q := by
      intro gi2 fr2 hm2 q33 q32 q77
      rw [b_M_found_42, q33, n32_add]
      refine hq _ (Fr_wI fr2 rfl) (MFr_of hm2 (fun j p1 p2 => by rw [wI_at, if_neg (by omega)]) (fun j => wI_ne (by decide) _ _ _ _ _) (fun j => wI_ne (by decide) _ _ _ _ _)) ?_
      rw [if_pos hok]
      refine ⟨wI_self _ _ _ _ _, fun _ => ⟨?_, fun i hi => ?_⟩, fun q => absurd q (Nat.succ_ne_zero _)⟩
      · rw [wI_at, if_neg (by omega), q32]
      · rw [wI_ne (by decide)]
        exact q77 i hi
    rw [b_M_found_8, hv1.1]
    refine ⟨fun y => ?_, fun y => ?_⟩
    · rw [n32_eq (by omega) (by omega)] at y
      rw [b_M_found_15, c0, c1, c2]
      refine ⟨G_12_31 hG 0, n32_in (by omega) (by omega), G_12_31 hG 0, n32_in (by omega) (by omega), G_12_31 hG 0, n32_in (by omega) (by omega), ?_⟩
      refine fin _ (Fr_wI (Fr_wI (Fr_wI (Fr_wI fr1' rfl) rfl) rfl) rfl) (MFr_of hm1 (fun j p1 p2 => ?_) (fun j => ?_) (fun j => ?_)) ?_ ?_ (fun i hi => ?_)
      · rw [wI_ne (by decide), wI_ne (by decide), wI_ne (by decide), wI_at, if_neg (by omega)]
      · rw [wI_ne (by decide), wI_ne (by decide), wI_ne (by decide), wI_ne (by decide)]
      · rw [wI_ne (by decide), wI_ne (by decide), wI_ne (by decide), wI_ne (by decide)]
      · rw [wI_ne (by decide), wI_ne (by decide), wI_ne (by decide), wI_at, if_neg (by omega), hv1.1]
      · rw [wI_ne (by decide), wI_ne (by decide), wI_ne (by decide), wI_self]
      · rw [if_pos y]
        have cs : i = 0 ∨ i = 1 ∨ i = 2 := by omega
        rcases cs with rfl | rfl | rfl
        · rw [wI_at, if_neg (by omega), wI_at, if_neg (by omega), wI_self]
          exact h0 hi
        · rw [wI_at, if_neg (by omega), wI_self]
          exact h1 hi
        · rw [wI_self]
          exact h2 hi
    · rw [n32_eq (by omega) (by omega)] at y
      refine fin gi1 fr1' hm1 hv1.1 (hv1.2.1 (by omega)).1 (fun i hi => ?_)
      rw [if_neg y]
      exact (hv1.2.1 (by omega)).2 i hi
/-- the third cell -/
theorem mf_c {d t W T O dy sl p lo : Nat} {L : Option (List PC)} {B : Nat → Nat} {x : FS} {ca cb : Nat} {gi : GI} {g : AG} {Q : Option AV → AH → Prop} (hG : GOK g) (hp : p < 10) (h : MFr gi t W T O dy sl L B) (hv : MFV gi 3 x) (hlo : lo ≤ W * T) (hx : x.1 + W * T < 1000000) (o1 o10 : Option AV) (x6 x8 : Int32)
    (hq : ∀ gi' o9 o10, Fr mfMod gi gi' → MFr gi' t W T O dy sl L B → MFV gi' 3 (levM (W * T) p (okF L W T O dy sl) 1 B [ca, cb] x lo) → Runs (d + 48) (m_M_frees, 248, [some (.inr (.inr (some (12, 0)))), o1, some (.inl (n32 p)), some (.inl (n32 (W * T))), some (.inl (n32 3)), some (.inl (n32 ca)), some (.inl x6), some (.inl (n32 cb)), some (.inl x8), o9, o10], []) (gi', g) Q) :
    Runs (d + 48) (m_M_frees, 193, [some (.inr (.inr (some (12, 0)))), o1, some (.inl (n32 p)), some (.inl (n32 (W * T))), some (.inl (n32 3)), some (.inl (n32 ca)), some (.inl x6), some (.inl (n32 cb)), some (.inl x8), some (.inl (n32 lo)), o10], []) (gi, g) Q := by
  have hW := h.1.2.2.2.1
  have hT := h.1.2.2.2.2.1
  have h64 := wt64 hW hT
  have key := loop_up (n := W * T - lo) (P := fun i => ∀ (gi1 : GI) o10, Fr mfMod gi gi1 → MFr gi1 t W T O dy sl L B → MFV gi1 3 (foldR (fun c y => levM (W * T) p (okF L W T O dy sl) 0 (updB B c p) ([ca, cb] ++ [c]) y (c + 1)) x lo i) → Runs (d + 48) (m_M_frees, 193, [some (.inr (.inr (some (12, 0)))), o1, some (.inl (n32 p)), some (.inl (n32 (W * T))), some (.inl (n32 3)), some (.inl (n32 ca)), some (.inl x6), some (.inl (n32 cb)), some (.inl x8), some (.inl (n32 (lo + i))), o10], []) (gi1, g) Q) ?_ ?_
  · exact key 0 (Nat.zero_le _) gi o10 (Fr_refl _ _) h hv
  · intro i hi ih gi1 o10 fr hm hv1
    have hfl : (foldR (fun c y => levM (W * T) p (okF L W T O dy sl) 0 (updB B c p) ([ca, cb] ++ [c]) y (c + 1)) x lo i).1 ≤ x.1 + i * 1 := foldR_le (fun c y => Nat.le_trans levM_le (by simp)) i
    have e74 := hm.1.2.2.2.2.2.2 (lo + i) (by omega)
    have hlt : lo + i < W * T := by omega
    rw [b_M_frees_193]
    simp (disch := omega) only [b_M_frees_199, b_M_frees_205, hlt, e74.1, G_0_0 hG, G_0_1 hG, G_0_2 hG, G_0_3 hG, G_0_7 hG, G_0_10 hG, G_0_12 hG, G_0_13 hG, G_0_14 hG, G_0_15 hG, G_0_16 hG, G_0_17 hG, G_1_0 hG, G_1_2 hG, G_1_5 hG, G_2_4 hG, G_2_5 hG, G_3_5 hG, G_3_6 hG, G_3_7 hG, G_3_8 hG, G_3_9 hG, G_5_0 hG, G_5_1 hG, G_6_0 hG, G_6_1 hG, G_6_2 hG, G_6_9 hG, G_6_10 hG, G_6_11 hG, G_6_12 hG, G_6_13 hG, G_7_0 hG, G_7_5 hG, G_8_8 hG, G_8_9 hG, G_9_8 hG, G_9_9 hG, G_10_7 hG, G_10_8 hG, G_10_9 hG, G_10_10 hG, G_10_11 hG, G_11_0 hG, G_12_2 hG, G_12_3 hG, G_12_4 hG, G_12_5 hG, G_12_7 hG, G_12_8 hG, G_12_9 hG, G_12_12 hG, G_12_13 hG, G_12_14 hG, G_12_22 hG, G_12_23 hG, G_12_29 hG, G_12_30 hG, G_12_31 hG, G_12_37 hG, G_12_38 hG, G_12_39 hG, G_12_40 hG, G_12_41 hG, G_12_43 hG, G_12_46 hG, G_12_47 hG, G_12_48 hG, G_25 hG, G_26 hG, G_47 hG, G_58 hG, n32_add, n32_mul, n32_lt, n32_le, n32_eq, n32_clamp, n32_inT, n32_div, n32_rem, n32_m1, n32_m1', n32_m1lt, n32_ltm1, n32_10, n32_01, Nat.not_lt_zero, Nat.lt_irrefl, Nat.mul_zero, Nat.zero_mul, Nat.zero_add, Nat.add_zero, Nat.reduceEqDiff, Nat.one_ne_zero, Nat.zero_ne_one, ax_psh_none, ax_psh_some, true_and, and_true, and_false, false_and, not_true_eq_false, not_false_eq_true, true_imp_iff, false_imp_iff, imp_self, or_true, true_or, or_false, false_or, and_self, ite_true, ite_false, if_true, if_false, Nat.reduceLT]
    refine c_M_found (d := d) (r := [ca, cb] ++ [lo + i]) hG (MFr_wI hm hp) (MFV_of hv1 (wI_ne (by decide) _ _ _ _ _) (wI_ne (by decide) _ _ _ _ _) (fun i => wI_ne (by decide) _ _ _ _ _)) (by omega) (by omega) (fun _ => rfl) (fun _ => rfl) (fun _ => rfl) ?_
    intro gi2 fr2 hm2 hv2
    simp (disch := omega) only [b_M_frees_233, G_0_0 hG, G_0_1 hG, G_0_2 hG, G_0_3 hG, G_0_7 hG, G_0_10 hG, G_0_12 hG, G_0_13 hG, G_0_14 hG, G_0_15 hG, G_0_16 hG, G_0_17 hG, G_1_0 hG, G_1_2 hG, G_1_5 hG, G_2_4 hG, G_2_5 hG, G_3_5 hG, G_3_6 hG, G_3_7 hG, G_3_8 hG, G_3_9 hG, G_5_0 hG, G_5_1 hG, G_6_0 hG, G_6_1 hG, G_6_2 hG, G_6_9 hG, G_6_10 hG, G_6_11 hG, G_6_12 hG, G_6_13 hG, G_7_0 hG, G_7_5 hG, G_8_8 hG, G_8_9 hG, G_9_8 hG, G_9_9 hG, G_10_7 hG, G_10_8 hG, G_10_9 hG, G_10_10 hG, G_10_11 hG, G_11_0 hG, G_12_2 hG, G_12_3 hG, G_12_4 hG, G_12_5 hG, G_12_7 hG, G_12_8 hG, G_12_9 hG, G_12_12 hG, G_12_13 hG, G_12_14 hG, G_12_22 hG, G_12_23 hG, G_12_29 hG, G_12_30 hG, G_12_31 hG, G_12_37 hG, G_12_38 hG, G_12_39 hG, G_12_40 hG, G_12_41 hG, G_12_43 hG, G_12_46 hG, G_12_47 hG, G_12_48 hG, G_25 hG, G_26 hG, G_47 hG, G_58 hG, n32_add, n32_mul, n32_lt, n32_le, n32_eq, n32_clamp, n32_inT, n32_div, n32_rem, n32_m1, n32_m1', n32_m1lt, n32_ltm1, n32_10, n32_01, Nat.not_lt_zero, Nat.lt_irrefl, Nat.mul_zero, Nat.zero_mul, Nat.zero_add, Nat.add_zero, Nat.reduceEqDiff, Nat.one_ne_zero, Nat.zero_ne_one, ax_psh_none, ax_psh_some, true_and, and_true, and_false, false_and, not_true_eq_false, not_false_eq_true, true_imp_iff, false_imp_iff, imp_self, or_true, true_or, or_false, false_or, and_self, ite_true, ite_false, if_true, if_false]
    refine ih _ _ (Fr_wI (Fr_trans (Fr_trans fr (Fr_wI (Fr_refl _ _) rfl)) fr2) rfl) ?_ ?_
    · have := MFr_wI (c := lo + i) hm2 e74.2
      rw [updB_upd, updB_same rfl] at this
      exact this
    · exact MFV_of hv2 (wI_ne (by decide) _ _ _ _ _) (wI_ne (by decide) _ _ _ _ _) (fun i => wI_ne (by decide) _ _ _ _ _)
  · intro gi1 o10 fr hm hv1
    rw [b_M_frees_193, show lo + (W * T - lo) = W * T by omega]
    simp (disch := omega) only [n32_add, n32_mul, n32_lt, n32_le, n32_eq, n32_clamp, n32_inT, n32_div, n32_rem, n32_m1, n32_m1', n32_m1lt, n32_ltm1, n32_10, n32_01, Nat.not_lt_zero, Nat.lt_irrefl, Nat.mul_zero, Nat.zero_mul, Nat.zero_add, Nat.add_zero, Nat.reduceEqDiff, Nat.one_ne_zero, Nat.zero_ne_one, ax_psh_none, ax_psh_some, true_and, and_true, and_false, false_and, not_true_eq_false, not_false_eq_true, true_imp_iff, false_imp_iff, imp_self, or_true, true_or, or_false, false_or, and_self, ite_true, ite_false, if_true, if_false]
    exact hq gi1 _ o10 fr hm hv1
/-- the second cell: size 2 or 3 -/
theorem mf_b {d t W T O dy sl p lo sz : Nat} {L : Option (List PC)} {B : Nat → Nat} {x : FS} {ca : Nat} {gi : GI} {g : AG} {Q : Option AV → AH → Prop} (hG : GOK g) (hp : p < 10) (hsz : sz = 2 ∨ sz = 3) (h : MFr gi t W T O dy sl L B) (hv : MFV gi sz x) (hlo : lo ≤ W * T) (hx : x.1 + (W * T) ^ (sz - 1) < 1000000) (o1 o8 o9 o10 : Option AV) (x6 : Int32)
    (hq : ∀ gi' o7 o8 o9 o10, Fr mfMod gi gi' → MFr gi' t W T O dy sl L B → MFV gi' sz (levM (W * T) p (okF L W T O dy sl) (sz - 1) B [ca] x lo) → Runs (d + 48) (m_M_frees, 263, [some (.inr (.inr (some (12, 0)))), o1, some (.inl (n32 p)), some (.inl (n32 (W * T))), some (.inl (n32 sz)), some (.inl (n32 ca)), some (.inl x6), o7, o8, o9, o10], []) (gi', g) Q) :
    Runs (d + 48) (m_M_frees, 142, [some (.inr (.inr (some (12, 0)))), o1, some (.inl (n32 p)), some (.inl (n32 (W * T))), some (.inl (n32 sz)), some (.inl (n32 ca)), some (.inl x6), some (.inl (n32 lo)), o8, o9, o10], []) (gi, g) Q := by
  have hW := h.1.2.2.2.1
  have hT := h.1.2.2.2.2.1
  have h64 := wt64 hW hT
  obtain ⟨k, hk⟩ : ∃ k, sz - 1 = k + 1 := ⟨sz - 2, by omega⟩
  rw [hk] at hx hq
  have key := loop_up (n := W * T - lo) (P := fun i => ∀ (gi1 : GI) o8 o9 o10, Fr mfMod gi gi1 → MFr gi1 t W T O dy sl L B → MFV gi1 sz (foldR (fun c y => levM (W * T) p (okF L W T O dy sl) k (updB B c p) ([ca] ++ [c]) y (c + 1)) x lo i) → Runs (d + 48) (m_M_frees, 142, [some (.inr (.inr (some (12, 0)))), o1, some (.inl (n32 p)), some (.inl (n32 (W * T))), some (.inl (n32 sz)), some (.inl (n32 ca)), some (.inl x6), some (.inl (n32 (lo + i))), o8, o9, o10], []) (gi1, g) Q) ?_ ?_
  · exact key 0 (Nat.zero_le _) gi o8 o9 o10 (Fr_refl _ _) h hv
  · intro i hi ih gi1 o8 o9 o10 fr hm hv1
    have hfl : (foldR (fun c y => levM (W * T) p (okF L W T O dy sl) k (updB B c p) ([ca] ++ [c]) y (c + 1)) x lo i).1 ≤ x.1 + i * (W * T) ^ k := foldR_le (fun c y => levM_le) i
    have hpw : (W * T) ^ (k + 1) = (W * T) * (W * T) ^ k := by rw [Nat.pow_succ, Nat.mul_comm]
    have hmu : i * (W * T) ^ k + (W * T) ^ k ≤ (W * T) * (W * T) ^ k := by
      rw [← Nat.succ_mul]
      exact Nat.mul_le_mul_right _ (by omega)
    have e74 := hm.1.2.2.2.2.2.2 (lo + i) (by omega)
    have hlt : lo + i < W * T := by omega
    have h1 : 1 < sz := by omega
    have hmw := MFr_wI (c := lo + i) hm hp
    have hvw : MFV (ax_wI gi1 74 0 (lo + i) (n32 p)) sz (foldR (fun c y => levM (W * T) p (okF L W T O dy sl) k (updB B c p) ([ca] ++ [c]) y (c + 1)) x lo i) := MFV_of hv1 (wI_ne (by decide) _ _ _ _ _) (wI_ne (by decide) _ _ _ _ _) (fun i => wI_ne (by decide) _ _ _ _ _)
    have frw : Fr mfMod gi (ax_wI gi1 74 0 (lo + i) (n32 p)) := Fr_wI fr rfl
    -- behind the inner loop
    have back : ∀ (gi2 : GI) o9 o10, Fr mfMod gi gi2 → MFr gi2 t W T O dy sl L (updB B (lo + i) p) → MFV gi2 sz (foldR (fun c y => levM (W * T) p (okF L W T O dy sl) k (updB B c p) ([ca] ++ [c]) y (c + 1)) x lo (i + 1)) → Runs (d + 48) (m_M_frees, 248, [some (.inr (.inr (some (12, 0)))), o1, some (.inl (n32 p)), some (.inl (n32 (W * T))), some (.inl (n32 sz)), some (.inl (n32 ca)), some (.inl x6), some (.inl (n32 (lo + i))), some (.inl (n32 (B (lo + i)))), o9, o10], []) (gi2, g) Q := by
      intro gi2 o9 o10 fr2 hm2 hv2
      rw [b_M_frees_248]
      simp (disch := omega) only [G_0_0 hG, G_0_1 hG, G_0_2 hG, G_0_3 hG, G_0_7 hG, G_0_10 hG, G_0_12 hG, G_0_13 hG, G_0_14 hG, G_0_15 hG, G_0_16 hG, G_0_17 hG, G_1_0 hG, G_1_2 hG, G_1_5 hG, G_2_4 hG, G_2_5 hG, G_3_5 hG, G_3_6 hG, G_3_7 hG, G_3_8 hG, G_3_9 hG, G_5_0 hG, G_5_1 hG, G_6_0 hG, G_6_1 hG, G_6_2 hG, G_6_9 hG, G_6_10 hG, G_6_11 hG, G_6_12 hG, G_6_13 hG, G_7_0 hG, G_7_5 hG, G_8_8 hG, G_8_9 hG, G_9_8 hG, G_9_9 hG, G_10_7 hG, G_10_8 hG, G_10_9 hG, G_10_10 hG, G_10_11 hG, G_11_0 hG, G_12_2 hG, G_12_3 hG, G_12_4 hG, G_12_5 hG, G_12_7 hG, G_12_8 hG, G_12_9 hG, G_12_12 hG, G_12_13 hG, G_12_14 hG, G_12_22 hG, G_12_23 hG, G_12_29 hG, G_12_30 hG, G_12_31 hG, G_12_37 hG, G_12_38 hG, G_12_39 hG, G_12_40 hG, G_12_41 hG, G_12_43 hG, G_12_46 hG, G_12_47 hG, G_12_48 hG, G_25 hG, G_26 hG, G_47 hG, G_58 hG, n32_add, n32_mul, n32_lt, n32_le, n32_eq, n32_clamp, n32_inT, n32_div, n32_rem, n32_m1, n32_m1', n32_m1lt, n32_ltm1, n32_10, n32_01, Nat.not_lt_zero, Nat.lt_irrefl, Nat.mul_zero, Nat.zero_mul, Nat.zero_add, Nat.add_zero, Nat.reduceEqDiff, Nat.one_ne_zero, Nat.zero_ne_one, ax_psh_none, ax_psh_some, true_and, and_true, and_false, false_and, not_true_eq_false, not_false_eq_true, true_imp_iff, false_imp_iff, imp_self, or_true, true_or, or_false, false_or, and_self, ite_true, ite_false, if_true, if_false]
      refine ih _ _ _ _ (Fr_wI fr2 rfl) ?_ (MFV_of hv2 (wI_ne (by decide) _ _ _ _ _) (wI_ne (by decide) _ _ _ _ _) (fun i => wI_ne (by decide) _ _ _ _ _))
      have := MFr_wI (c := lo + i) hm2 e74.2
      rw [updB_upd, updB_same rfl] at this
      exact this
    rw [b_M_frees_142]
    rcases hsz with rfl | rfl
    · have hk0 : k = 0 := by omega
      subst hk0
      simp (disch := omega) only [b_M_frees_148, b_M_frees_154, b_M_frees_177, hlt, e74.1, G_0_0 hG, G_0_1 hG, G_0_2 hG, G_0_3 hG, G_0_7 hG, G_0_10 hG, G_0_12 hG, G_0_13 hG, G_0_14 hG, G_0_15 hG, G_0_16 hG, G_0_17 hG, G_1_0 hG, G_1_2 hG, G_1_5 hG, G_2_4 hG, G_2_5 hG, G_3_5 hG, G_3_6 hG, G_3_7 hG, G_3_8 hG, G_3_9 hG, G_5_0 hG, G_5_1 hG, G_6_0 hG, G_6_1 hG, G_6_2 hG, G_6_9 hG, G_6_10 hG, G_6_11 hG, G_6_12 hG, G_6_13 hG, G_7_0 hG, G_7_5 hG, G_8_8 hG, G_8_9 hG, G_9_8 hG, G_9_9 hG, G_10_7 hG, G_10_8 hG, G_10_9 hG, G_10_10 hG, G_10_11 hG, G_11_0 hG, G_12_2 hG, G_12_3 hG, G_12_4 hG, G_12_5 hG, G_12_7 hG, G_12_8 hG, G_12_9 hG, G_12_12 hG, G_12_13 hG, G_12_14 hG, G_12_22 hG, G_12_23 hG, G_12_29 hG, G_12_30 hG, G_12_31 hG, G_12_37 hG, G_12_38 hG, G_12_39 hG, G_12_40 hG, G_12_41 hG, G_12_43 hG, G_12_46 hG, G_12_47 hG, G_12_48 hG, G_25 hG, G_26 hG, G_47 hG, G_58 hG, n32_add, n32_mul, n32_lt, n32_le, n32_eq, n32_clamp, n32_inT, n32_div, n32_rem, n32_m1, n32_m1', n32_m1lt, n32_ltm1, n32_10, n32_01, Nat.not_lt_zero, Nat.lt_irrefl, Nat.mul_zero, Nat.zero_mul, Nat.zero_add, Nat.add_zero, Nat.reduceEqDiff, Nat.one_ne_zero, Nat.zero_ne_one, ax_psh_none, ax_psh_some, true_and, and_true, and_false, false_and, not_true_eq_false, not_false_eq_true, true_imp_iff, false_imp_iff, imp_self, or_true, true_or, or_false, false_or, and_self, ite_true, ite_false, if_true, if_false, Nat.reduceLT]
      refine c_M_found (d := d) (r := [ca] ++ [lo + i]) hG hmw hvw (by simp only [Nat.pow_zero, Nat.mul_one] at hmu hx hfl hpw; omega) (by omega) (fun _ => rfl) (fun _ => rfl) (fun q => absurd q (by omega)) ?_
      intro gi2 fr2 hm2 hv2
      simp (disch := omega) only [b_M_frees_187, n32_add, n32_mul, n32_lt, n32_le, n32_eq, n32_clamp, n32_inT, n32_div, n32_rem, n32_m1, n32_m1', n32_m1lt, n32_ltm1, n32_10, n32_01, Nat.not_lt_zero, Nat.lt_irrefl, Nat.mul_zero, Nat.zero_mul, Nat.zero_add, Nat.add_zero, Nat.reduceEqDiff, Nat.one_ne_zero, Nat.zero_ne_one, ax_psh_none, ax_psh_some, true_and, and_true, and_false, false_and, not_true_eq_false, not_false_eq_true, true_imp_iff, false_imp_iff, imp_self, or_true, true_or, or_false, false_or, and_self, ite_true, ite_false, if_true, if_false]
      rw [b_M_frees_193]
      have b := back gi2 (some (.inl (n32 (lo + i + 1)))) o10 (Fr_trans frw fr2) hm2 hv2
      by_cases z : lo + i + 1 < W * T
      · simp (disch := omega) only [b_M_frees_199, z, n32_add, n32_mul, n32_lt, n32_le, n32_eq, n32_clamp, n32_inT, n32_div, n32_rem, n32_m1, n32_m1', n32_m1lt, n32_ltm1, n32_10, n32_01, Nat.not_lt_zero, Nat.lt_irrefl, Nat.mul_zero, Nat.zero_mul, Nat.zero_add, Nat.add_zero, Nat.reduceEqDiff, Nat.one_ne_zero, Nat.zero_ne_one, ax_psh_none, ax_psh_some, true_and, and_true, and_false, false_and, not_true_eq_false, not_false_eq_true, true_imp_iff, false_imp_iff, imp_self, or_true, true_or, or_false, false_or, and_self, ite_true, ite_false, if_true, if_false, Nat.reduceLT]
        exact b
      · simp (disch := omega) only [z, n32_add, n32_mul, n32_lt, n32_le, n32_eq, n32_clamp, n32_inT, n32_div, n32_rem, n32_m1, n32_m1', n32_m1lt, n32_ltm1, n32_10, n32_01, Nat.not_lt_zero, Nat.lt_irrefl, Nat.mul_zero, Nat.zero_mul, Nat.zero_add, Nat.add_zero, Nat.reduceEqDiff, Nat.one_ne_zero, Nat.zero_ne_one, ax_psh_none, ax_psh_some, true_and, and_true, and_false, false_and, not_true_eq_false, not_false_eq_true, true_imp_iff, false_imp_iff, imp_self, or_true, true_or, or_false, false_or, and_self, ite_true, ite_false, if_true, if_false]
        exact b
    · have hk1 : k = 1 := by omega
      subst hk1
      simp (disch := omega) only [b_M_frees_148, b_M_frees_154, b_M_frees_187, hlt, e74.1, G_0_0 hG, G_0_1 hG, G_0_2 hG, G_0_3 hG, G_0_7 hG, G_0_10 hG, G_0_12 hG, G_0_13 hG, G_0_14 hG, G_0_15 hG, G_0_16 hG, G_0_17 hG, G_1_0 hG, G_1_2 hG, G_1_5 hG, G_2_4 hG, G_2_5 hG, G_3_5 hG, G_3_6 hG, G_3_7 hG, G_3_8 hG, G_3_9 hG, G_5_0 hG, G_5_1 hG, G_6_0 hG, G_6_1 hG, G_6_2 hG, G_6_9 hG, G_6_10 hG, G_6_11 hG, G_6_12 hG, G_6_13 hG, G_7_0 hG, G_7_5 hG, G_8_8 hG, G_8_9 hG, G_9_8 hG, G_9_9 hG, G_10_7 hG, G_10_8 hG, G_10_9 hG, G_10_10 hG, G_10_11 hG, G_11_0 hG, G_12_2 hG, G_12_3 hG, G_12_4 hG, G_12_5 hG, G_12_7 hG, G_12_8 hG, G_12_9 hG, G_12_12 hG, G_12_13 hG, G_12_14 hG, G_12_22 hG, G_12_23 hG, G_12_29 hG, G_12_30 hG, G_12_31 hG, G_12_37 hG, G_12_38 hG, G_12_39 hG, G_12_40 hG, G_12_41 hG, G_12_43 hG, G_12_46 hG, G_12_47 hG, G_12_48 hG, G_25 hG, G_26 hG, G_47 hG, G_58 hG, n32_add, n32_mul, n32_lt, n32_le, n32_eq, n32_clamp, n32_inT, n32_div, n32_rem, n32_m1, n32_m1', n32_m1lt, n32_ltm1, n32_10, n32_01, Nat.not_lt_zero, Nat.lt_irrefl, Nat.mul_zero, Nat.zero_mul, Nat.zero_add, Nat.add_zero, Nat.reduceEqDiff, Nat.one_ne_zero, Nat.zero_ne_one, ax_psh_none, ax_psh_some, true_and, and_true, and_false, false_and, not_true_eq_false, not_false_eq_true, true_imp_iff, false_imp_iff, imp_self, or_true, true_or, or_false, false_or, and_self, ite_true, ite_false, if_true, if_false, Nat.reduceLT]
      refine mf_c (ca := ca) (cb := lo + i) hG hp hmw hvw (by omega) (by simp only [Nat.pow_one] at hmu hx hfl hpw; omega) _ _ _ _ ?_
      intro gi2 o9' o10' fr2 hm2 hv2
      exact back gi2 _ _ (Fr_trans frw fr2) hm2 hv2
  · intro gi1 o8 o9 o10 fr hm hv1
    rw [b_M_frees_142, show lo + (W * T - lo) = W * T by omega]
    simp (disch := omega) only [n32_add, n32_mul, n32_lt, n32_le, n32_eq, n32_clamp, n32_inT, n32_div, n32_rem, n32_m1, n32_m1', n32_m1lt, n32_ltm1, n32_10, n32_01, Nat.not_lt_zero, Nat.lt_irrefl, Nat.mul_zero, Nat.zero_mul, Nat.zero_add, Nat.add_zero, Nat.reduceEqDiff, Nat.one_ne_zero, Nat.zero_ne_one, ax_psh_none, ax_psh_some, true_and, and_true, and_false, false_and, not_true_eq_false, not_false_eq_true, true_imp_iff, false_imp_iff, imp_self, or_true, true_or, or_false, false_or, and_self, ite_true, ite_false, if_true, if_false]
    exact hq gi1 _ _ _ _ fr hm hv1
/-- the first cell -/
theorem mf_a {d t W T O dy sl p sz : Nat} {L : Option (List PC)} {B : Nat → Nat} {gi : GI} {g : AG} {Q : Option AV → AH → Prop} (hG : GOK g) (hp : p < 10) (hsz : 1 ≤ sz ∧ sz ≤ 3) (h : MFr gi t W T O dy sl L B) (hv : MFV gi sz (0, [])) (o1 o6 o7 o8 o9 o10 : Option AV)
    (hq : ∀ gi' o5 o6 o7 o8 o9 o10, Fr mfMod gi gi' → MFr gi' t W T O dy sl L B → MFV gi' sz (levM (W * T) p (okF L W T O dy sl) sz B [] (0, []) 0) → Runs (d + 48) (m_M_frees, 278, [some (.inr (.inr (some (12, 0)))), o1, some (.inl (n32 p)), some (.inl (n32 (W * T))), some (.inl (n32 sz)), o5, o6, o7, o8, o9, o10], []) (gi', g) Q) :
    Runs (d + 48) (m_M_frees, 98, [some (.inr (.inr (some (12, 0)))), o1, some (.inl (n32 p)), some (.inl (n32 (W * T))), some (.inl (n32 sz)), some (.inl (n32 0)), o6, o7, o8, o9, o10], []) (gi, g) Q := by
  have hW := h.1.2.2.2.1
  have hT := h.1.2.2.2.2.1
  have h64 := wt64 hW hT
  obtain ⟨k, hk⟩ : ∃ k, sz = k + 1 := ⟨sz - 1, by omega⟩
  have hpow : (W * T) * (W * T) ^ k ≤ 64 ^ 3 := by
    rw [← Nat.pow_succ']
    exact Nat.le_trans (Nat.pow_le_pow_left h64 _) (Nat.pow_le_pow_right (by omega) (by omega))
  have e643 : (64 : Nat) ^ 3 = 262144 := by decide
  have key := loop_up (n := W * T) (P := fun i => ∀ (gi1 : GI) o6 o7 o8 o9 o10, Fr mfMod gi gi1 → MFr gi1 t W T O dy sl L B → MFV gi1 sz (foldR (fun c y => levM (W * T) p (okF L W T O dy sl) k (updB B c p) ([] ++ [c]) y (c + 1)) (0, []) 0 i) → Runs (d + 48) (m_M_frees, 98, [some (.inr (.inr (some (12, 0)))), o1, some (.inl (n32 p)), some (.inl (n32 (W * T))), some (.inl (n32 sz)), some (.inl (n32 i)), o6, o7, o8, o9, o10], []) (gi1, g) Q) ?_ ?_
  · exact key 0 (Nat.zero_le _) gi o6 o7 o8 o9 o10 (Fr_refl _ _) h hv
  · intro i hi ih gi1 o6 o7 o8 o9 o10 fr hm hv1
    have hfl : (foldR (fun c y => levM (W * T) p (okF L W T O dy sl) k (updB B c p) ([] ++ [c]) y (c + 1)) ((0, []) : FS) 0 i).1 ≤ 0 + i * (W * T) ^ k := foldR_le (fun c y => levM_le) i
    have hmu : i * (W * T) ^ k + (W * T) ^ k ≤ (W * T) * (W * T) ^ k := by
      rw [← Nat.succ_mul]
      exact Nat.mul_le_mul_right _ (by omega)
    have e74 := hm.1.2.2.2.2.2.2 i hi
    have hmw := MFr_wI (c := i) hm hp
    have hvw : MFV (ax_wI gi1 74 0 i (n32 p)) sz (foldR (fun c y => levM (W * T) p (okF L W T O dy sl) k (updB B c p) ([] ++ [c]) y (c + 1)) (0, []) 0 i) := MFV_of hv1 (wI_ne (by decide) _ _ _ _ _) (wI_ne (by decide) _ _ _ _ _) (fun i => wI_ne (by decide) _ _ _ _ _)
    have frw : Fr mfMod gi (ax_wI gi1 74 0 i (n32 p)) := Fr_wI fr rfl
    have step : foldR (fun c y => levM (W * T) p (okF L W T O dy sl) k (updB B c p) ([] ++ [c]) y (c + 1)) (0, []) 0 (i + 1) = levM (W * T) p (okF L W T O dy sl) k (updB B i p) [i] (foldR (fun c y => levM (W * T) p (okF L W T O dy sl) k (updB B c p) ([] ++ [c]) y (c + 1)) (0, []) 0 i) (i + 1) := by
      show levM (W * T) p (okF L W T O dy sl) k (updB B (0 + i) p) ([] ++ [0 + i]) _ (0 + i + 1) = _
      rw [Nat.zero_add]
      rfl
    have back : ∀ (gi2 : GI) o7 o8 o9 o10, Fr mfMod gi gi2 → MFr gi2 t W T O dy sl L (updB B i p) → MFV gi2 sz (levM (W * T) p (okF L W T O dy sl) k (updB B i p) [i] (foldR (fun c y => levM (W * T) p (okF L W T O dy sl) k (updB B c p) ([] ++ [c]) y (c + 1)) (0, []) 0 i) (i + 1)) → Runs (d + 48) (m_M_frees, 263, [some (.inr (.inr (some (12, 0)))), o1, some (.inl (n32 p)), some (.inl (n32 (W * T))), some (.inl (n32 sz)), some (.inl (n32 i)), some (.inl (n32 (B i))), o7, o8, o9, o10], []) (gi2, g) Q := by
      intro gi2 o7 o8 o9 o10 fr2 hm2 hv2
      rw [b_M_frees_263]
      simp (disch := omega) only [G_0_0 hG, G_0_1 hG, G_0_2 hG, G_0_3 hG, G_0_7 hG, G_0_10 hG, G_0_12 hG, G_0_13 hG, G_0_14 hG, G_0_15 hG, G_0_16 hG, G_0_17 hG, G_1_0 hG, G_1_2 hG, G_1_5 hG, G_2_4 hG, G_2_5 hG, G_3_5 hG, G_3_6 hG, G_3_7 hG, G_3_8 hG, G_3_9 hG, G_5_0 hG, G_5_1 hG, G_6_0 hG, G_6_1 hG, G_6_2 hG, G_6_9 hG, G_6_10 hG, G_6_11 hG, G_6_12 hG, G_6_13 hG, G_7_0 hG, G_7_5 hG, G_8_8 hG, G_8_9 hG, G_9_8 hG, G_9_9 hG, G_10_7 hG, G_10_8 hG, G_10_9 hG, G_10_10 hG, G_10_11 hG, G_11_0 hG, G_12_2 hG, G_12_3 hG, G_12_4 hG, G_12_5 hG, G_12_7 hG, G_12_8 hG, G_12_9 hG, G_12_12 hG, G_12_13 hG, G_12_14 hG, G_12_22 hG, G_12_23 hG, G_12_29 hG, G_12_30 hG, G_12_31 hG, G_12_37 hG, G_12_38 hG, G_12_39 hG, G_12_40 hG, G_12_41 hG, G_12_43 hG, G_12_46 hG, G_12_47 hG, G_12_48 hG, G_25 hG, G_26 hG, G_47 hG, G_58 hG, n32_add, n32_mul, n32_lt, n32_le, n32_eq, n32_clamp, n32_inT, n32_div, n32_rem, n32_m1, n32_m1', n32_m1lt, n32_ltm1, n32_10, n32_01, Nat.not_lt_zero, Nat.lt_irrefl, Nat.mul_zero, Nat.zero_mul, Nat.zero_add, Nat.add_zero, Nat.reduceEqDiff, Nat.one_ne_zero, Nat.zero_ne_one, ax_psh_none, ax_psh_some, true_and, and_true, and_false, false_and, not_true_eq_false, not_false_eq_true, true_imp_iff, false_imp_iff, imp_self, or_true, true_or, or_false, false_or, and_self, ite_true, ite_false, if_true, if_false]
      refine ih _ _ _ _ _ _ (Fr_wI fr2 rfl) ?_ ?_
      · have := MFr_wI (c := i) hm2 e74.2
        rw [updB_upd, updB_same rfl] at this
        exact this
      · rw [step]
        exact MFV_of hv2 (wI_ne (by decide) _ _ _ _ _) (wI_ne (by decide) _ _ _ _ _) (fun i => wI_ne (by decide) _ _ _ _ _)
    rw [b_M_frees_98]
    by_cases hs1 : sz = 1
    · subst hs1
      have hk0 : k = 0 := by omega
      subst hk0
      simp (disch := omega) only [b_M_frees_104, b_M_frees_127, hi, e74.1, G_0_0 hG, G_0_1 hG, G_0_2 hG, G_0_3 hG, G_0_7 hG, G_0_10 hG, G_0_12 hG, G_0_13 hG, G_0_14 hG, G_0_15 hG, G_0_16 hG, G_0_17 hG, G_1_0 hG, G_1_2 hG, G_1_5 hG, G_2_4 hG, G_2_5 hG, G_3_5 hG, G_3_6 hG, G_3_7 hG, G_3_8 hG, G_3_9 hG, G_5_0 hG, G_5_1 hG, G_6_0 hG, G_6_1 hG, G_6_2 hG, G_6_9 hG, G_6_10 hG, G_6_11 hG, G_6_12 hG, G_6_13 hG, G_7_0 hG, G_7_5 hG, G_8_8 hG, G_8_9 hG, G_9_8 hG, G_9_9 hG, G_10_7 hG, G_10_8 hG, G_10_9 hG, G_10_10 hG, G_10_11 hG, G_11_0 hG, G_12_2 hG, G_12_3 hG, G_12_4 hG, G_12_5 hG, G_12_7 hG, G_12_8 hG, G_12_9 hG, G_12_12 hG, G_12_13 hG, G_12_14 hG, G_12_22 hG, G_12_23 hG, G_12_29 hG, G_12_30 hG, G_12_31 hG, G_12_37 hG, G_12_38 hG, G_12_39 hG, G_12_40 hG, G_12_41 hG, G_12_43 hG, G_12_46 hG, G_12_47 hG, G_12_48 hG, G_25 hG, G_26 hG, G_47 hG, G_58 hG, n32_add, n32_mul, n32_lt, n32_le, n32_eq, n32_clamp, n32_inT, n32_div, n32_rem, n32_m1, n32_m1', n32_m1lt, n32_ltm1, n32_10, n32_01, Nat.not_lt_zero, Nat.lt_irrefl, Nat.mul_zero, Nat.zero_mul, Nat.zero_add, Nat.add_zero, Nat.reduceEqDiff, Nat.one_ne_zero, Nat.zero_ne_one, ax_psh_none, ax_psh_some, true_and, and_true, and_false, false_and, not_true_eq_false, not_false_eq_true, true_imp_iff, false_imp_iff, imp_self, or_true, true_or, or_false, false_or, and_self, ite_true, ite_false, if_true, if_false]
      refine c_M_found (d := d) (r := [i]) hG hmw hvw (by simp only [Nat.pow_zero] at hmu hpow hfl; omega) (by omega) (fun _ => rfl) (fun q => absurd q (by omega)) (fun q => absurd q (by omega)) ?_
      intro gi2 fr2 hm2 hv2
      simp (disch := omega) only [b_M_frees_136, n32_add, n32_mul, n32_lt, n32_le, n32_eq, n32_clamp, n32_inT, n32_div, n32_rem, n32_m1, n32_m1', n32_m1lt, n32_ltm1, n32_10, n32_01, Nat.not_lt_zero, Nat.lt_irrefl, Nat.mul_zero, Nat.zero_mul, Nat.zero_add, Nat.add_zero, Nat.reduceEqDiff, Nat.one_ne_zero, Nat.zero_ne_one, ax_psh_none, ax_psh_some, true_and, and_true, and_false, false_and, not_true_eq_false, not_false_eq_true, true_imp_iff, false_imp_iff, imp_self, or_true, true_or, or_false, false_or, and_self, ite_true, ite_false, if_true, if_false]
      rw [b_M_frees_142]
      have b := fun o7 => back gi2 o7 o8 o9 o10 (Fr_trans frw fr2) hm2 hv2
      by_cases z : i + 1 < W * T
      · simp (disch := omega) only [b_M_frees_148, z, n32_add, n32_mul, n32_lt, n32_le, n32_eq, n32_clamp, n32_inT, n32_div, n32_rem, n32_m1, n32_m1', n32_m1lt, n32_ltm1, n32_10, n32_01, Nat.not_lt_zero, Nat.lt_irrefl, Nat.mul_zero, Nat.zero_mul, Nat.zero_add, Nat.add_zero, Nat.reduceEqDiff, Nat.one_ne_zero, Nat.zero_ne_one, ax_psh_none, ax_psh_some, true_and, and_true, and_false, false_and, not_true_eq_false, not_false_eq_true, true_imp_iff, false_imp_iff, imp_self, or_true, true_or, or_false, false_or, and_self, ite_true, ite_false, if_true, if_false]
        exact b _
      · simp (disch := omega) only [z, n32_add, n32_mul, n32_lt, n32_le, n32_eq, n32_clamp, n32_inT, n32_div, n32_rem, n32_m1, n32_m1', n32_m1lt, n32_ltm1, n32_10, n32_01, Nat.not_lt_zero, Nat.lt_irrefl, Nat.mul_zero, Nat.zero_mul, Nat.zero_add, Nat.add_zero, Nat.reduceEqDiff, Nat.one_ne_zero, Nat.zero_ne_one, ax_psh_none, ax_psh_some, true_and, and_true, and_false, false_and, not_true_eq_false, not_false_eq_true, true_imp_iff, false_imp_iff, imp_self, or_true, true_or, or_false, false_or, and_self, ite_true, ite_false, if_true, if_false]
        exact b _
    · simp (disch := omega) only [b_M_frees_104, b_M_frees_136, hi, hs1, e74.1, G_0_0 hG, G_0_1 hG, G_0_2 hG, G_0_3 hG, G_0_7 hG, G_0_10 hG, G_0_12 hG, G_0_13 hG, G_0_14 hG, G_0_15 hG, G_0_16 hG, G_0_17 hG, G_1_0 hG, G_1_2 hG, G_1_5 hG, G_2_4 hG, G_2_5 hG, G_3_5 hG, G_3_6 hG, G_3_7 hG, G_3_8 hG, G_3_9 hG, G_5_0 hG, G_5_1 hG, G_6_0 hG, G_6_1 hG, G_6_2 hG, G_6_9 hG, G_6_10 hG, G_6_11 hG, G_6_12 hG, G_6_13 hG, G_7_0 hG, G_7_5 hG, G_8_8 hG, G_8_9 hG, G_9_8 hG, G_9_9 hG, G_10_7 hG, G_10_8 hG, G_10_9 hG, G_10_10 hG, G_10_11 hG, G_11_0 hG, G_12_2 hG, G_12_3 hG, G_12_4 hG, G_12_5 hG, G_12_7 hG, G_12_8 hG, G_12_9 hG, G_12_12 hG, G_12_13 hG, G_12_14 hG, G_12_22 hG, G_12_23 hG, G_12_29 hG, G_12_30 hG, G_12_31 hG, G_12_37 hG, G_12_38 hG, G_12_39 hG, G_12_40 hG, G_12_41 hG, G_12_43 hG, G_12_46 hG, G_12_47 hG, G_12_48 hG, G_25 hG, G_26 hG, G_47 hG, G_58 hG, n32_add, n32_mul, n32_lt, n32_le, n32_eq, n32_clamp, n32_inT, n32_div, n32_rem, n32_m1, n32_m1', n32_m1lt, n32_ltm1, n32_10, n32_01, Nat.not_lt_zero, Nat.lt_irrefl, Nat.mul_zero, Nat.zero_mul, Nat.zero_add, Nat.add_zero, Nat.reduceEqDiff, Nat.one_ne_zero, Nat.zero_ne_one, ax_psh_none, ax_psh_some, true_and, and_true, and_false, false_and, not_true_eq_false, not_false_eq_true, true_imp_iff, false_imp_iff, imp_self, or_true, true_or, or_false, false_or, and_self, ite_true, ite_false, if_true, if_false]
      refine mf_b (sz := sz) hG hp (by omega) hmw hvw (by omega) (by rw [show sz - 1 = k by omega]; omega) _ _ _ _ _ ?_
      intro gi2 o7' o8' o9' o10' fr2 hm2 hv2
      rw [show sz - 1 = k by omega] at hv2
      exact back gi2 _ _ _ _ (Fr_trans frw fr2) hm2 hv2
  · intro gi1 o6 o7 o8 o9 o10 fr hm hv1
    rw [b_M_frees_98]
    simp (disch := omega) only [n32_add, n32_mul, n32_lt, n32_le, n32_eq, n32_clamp, n32_inT, n32_div, n32_rem, n32_m1, n32_m1', n32_m1lt, n32_ltm1, n32_10, n32_01, Nat.not_lt_zero, Nat.lt_irrefl, Nat.mul_zero, Nat.zero_mul, Nat.zero_add, Nat.add_zero, Nat.reduceEqDiff, Nat.one_ne_zero, Nat.zero_ne_one, ax_psh_none, ax_psh_some, true_and, and_true, and_false, false_and, not_true_eq_false, not_false_eq_true, true_imp_iff, false_imp_iff, imp_self, or_true, true_or, or_false, false_or, and_self, ite_true, ite_false, if_true, if_false]
    refine hq gi1 _ _ _ _ _ _ fr hm ?_
    rw [hk] at hv1 ⊢
    exact hv1
