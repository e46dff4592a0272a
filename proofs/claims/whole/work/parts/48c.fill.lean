/-! fills: the reference -/
def FillMS (gi : GI) (l : List FF) (H : Nat) : Prop := ∀ j, j < H → l ≠ [] → SureV (gi 79 0 j) l j
def mlMod (s j : Nat) : Bool := (s == 12 && (Nat.ble 15 j && Nat.ble j 28)) || s == 73 || s == 74 || s == 78 || s == 79
theorem mlMod_f {s j : Nat} (h : mlMod s j = false) : ¬ ((s = 12 ∧ 15 ≤ j ∧ j ≤ 28) ∨ s = 73 ∨ s = 74 ∨ s = 78 ∨ s = 79) := by
  unfold mlMod at h
  have hb : ∀ x y : Nat, Nat.ble x y = true ↔ x ≤ y := fun x y => by rw [Nat.ble_eq]
  rw [← Bool.not_eq_true] at h
  simp only [Bool.or_eq_true, Bool.and_eq_true, beq_iff_eq, hb] at h
  omega
theorem mlMod_no {s j : Nat} (h : ¬ ((s = 12 ∧ 15 ≤ j ∧ j ≤ 28) ∨ s = 73 ∨ s = 74 ∨ s = 78 ∨ s = 79)) : mlMod s j = false := by
  cases hz : mlMod s j with
  | false => rfl
  | true =>
    exfalso
    unfold mlMod at hz
    have hb : ∀ x y : Nat, Nat.ble x y = true ↔ x ≤ y := fun x y => by rw [Nat.ble_eq]
    simp only [Bool.or_eq_true, Bool.and_eq_true, beq_iff_eq, hb] at hz
    omega
theorem ml_l {gi gi' : GI} (h : Fr layMod gi gi') : Fr mlMod gi gi' := Fr_mono h (fun s j q => layMod_no (by have := mlMod_f q; omega))
theorem ml_t {gi gi' : GI} (h : Fr taxMod gi gi') : Fr mlMod gi gi' := Fr_mono h (fun s j q => taxMod_no (by have := mlMod_f q; omega))
/-- all holes get the digits of a number -/
theorem mf_digits {d t W T O dy sl P H m : Nat} {b c B : Nat → Nat} {L : Option (List PC)} {gi : GI} {g : AG} {Q : Option AV → AH → Prop} (hG : GOK g) (hP : 2 ≤ P ∧ P ≤ 4) (hH : H ≤ 6) (hm : m < 2147483648) (hinj : ∀ i j, i < H → j < H → c i = c j → i = j) (h : MFr gi t W T O dy sl L B) (hB : ∀ j, (∀ u, u < H → c u ≠ j) → B j = b j) (h78 : ∀ u, u < H → gi 78 0 u = n32 (c u) ∧ c u < W * T) (o1 : Option AV) (x3 x5 x6 : Int32)
    (hq : ∀ gi' o8 o9, (∀ s a j, s ≠ 74 → gi' s a j = gi s a j) → MFr gi' t W T O dy sl L (fB b c (dig P m) H) → Runs d (m_M_fillings, 123, [some (.inr (.inr (some (12, 0)))), o1, some (.inl (n32 P)), some (.inl x3), some (.inl (n32 H)), some (.inl x5), some (.inl x6), some (.inl (n32 m)), o8, o9], []) (gi', g) Q) :
    Runs d (m_M_fillings, 88, [some (.inr (.inr (some (12, 0)))), o1, some (.inl (n32 P)), some (.inl x3), some (.inl (n32 H)), some (.inl x5), some (.inl x6), some (.inl (n32 m)), some (.inl (n32 m)), some (.inl (n32 0))], []) (gi, g) Q := by
  have h64 := wt64 h.1.2.2.2.1 h.1.2.2.2.2.1
  have zP : ¬ n32 P = n32 0 := by
    rw [n32_eq (by omega) (by omega)]
    omega
  have key := loop_up (n := H) (P := fun i => ∀ (gi1 : GI) (B1 : Nat → Nat), (∀ s a j, s ≠ 74 → gi1 s a j = gi s a j) → MFr gi1 t W T O dy sl L B1 → PreB B1 b c H (dig P m) i → Runs d (m_M_fillings, 88, [some (.inr (.inr (some (12, 0)))), o1, some (.inl (n32 P)), some (.inl x3), some (.inl (n32 H)), some (.inl x5), some (.inl x6), some (.inl (n32 m)), some (.inl (n32 (m / P ^ i))), some (.inl (n32 i))], []) (gi1, g) Q) ?_ ?_
  · have := key 0 (Nat.zero_le _) gi B (fun _ _ _ _ => rfl) h ⟨fun u hu => absurd hu (Nat.not_lt_zero u), hB⟩
    rw [Nat.pow_zero, Nat.div_one] at this
    exact this
  · intro i hi ih gi1 B1 f1 hm1 hpre
    have e78 : gi1 78 0 i = n32 (c i) := (f1 78 0 i (by decide)).trans (h78 i hi).1
    have hci := (h78 i hi).2
    have hdl : m / P ^ i ≤ m := Nat.div_le_self _ _
    rw [b_M_fillings_88]
    refine ⟨fun _ => ?_, fun z => absurd (by rw [n32_lt (by omega) (by omega)]; exact hi) z⟩
    rw [b_M_fillings_95, n32_rem (by omega) (by omega), n32_div (by omega) (by omega), n32_clamp (by omega), e78, n32_clamp (by omega), n32_add]
    refine ⟨G_12_23 hG 0, G_12_37 hG 0, n32_in (by omega) (by omega), zP, n32_in (by omega) (by omega), zP, ?_⟩
    rw [Nat.div_div_eq_div_mul, ← Nat.pow_succ]
    have hdg : m / P ^ i % P < 10 := by
      have := Nat.mod_lt (m / P ^ i) (show P > 0 by omega)
      omega
    refine ih _ (updB B1 (c i) (dig P m i)) (fun s a j q => ?_) (MFr_wI hm1 hdg) ⟨fun u hu => ?_, fun j hj => ?_⟩
    · rw [wI_ne q]
      exact f1 s a j q
    · by_cases z : u = i
      · rw [z, updB_self]
      · rw [updB_ne (fun e => z (hinj u i (by omega) hi e))]
        exact hpre.1 u (by omega)
    · rw [updB_ne (fun e => hj i hi e.symm)]
      exact hpre.2 j hj
  · intro gi1 B1 f1 hm1 hpre
    rw [b_M_fillings_88]
    refine ⟨fun z => absurd z (by rw [n32_lt (by omega) (by omega)]; omega), fun _ => ?_⟩
    rw [PreB_eq hinj hpre] at hm1
    exact hq gi1 _ _ f1 hm1
/-- a filling that owes the sum is noted -/
theorem mf_note {d t W T O dy sl P H m : Nat} {B c : Nat → Nat} {f : FF} {l : List FF} {L : Option (List PC)} {gi : GI} {g : AG} {Q : Option AV → AH → Prop} (hG : GOK g) (hH : H ≤ 6) (h : MFr gi t W T O dy sl L B) (h78 : ∀ u, u < H → gi 78 0 u = n32 (c u) ∧ c u < W * T) (hf : ∀ u, u < H → B (c u) = f u) (hl : l.length < 1000000) (hS : FillMS gi l H) (o1 o8 : Option AV) (x3 x5 : Int32)
    (hq : ∀ gi' o8 o9, (∀ s a j, s ≠ 79 → gi' s a j = gi s a j) → FillMS gi' (l ++ [f]) H → Runs d (m_M_fillings, 203, [some (.inr (.inr (some (12, 0)))), o1, some (.inl (n32 P)), some (.inl x3), some (.inl (n32 H)), some (.inl x5), some (.inl (n32 (l.length + 1))), some (.inl (n32 m)), o8, o9], []) (gi', g) Q) :
    Runs d (m_M_fillings, 137, [some (.inr (.inr (some (12, 0)))), o1, some (.inl (n32 P)), some (.inl x3), some (.inl (n32 H)), some (.inl x5), some (.inl (n32 l.length)), some (.inl (n32 m)), o8, some (.inl (n32 0))], []) (gi, g) Q := by
  have h64 := wt64 h.1.2.2.2.1 h.1.2.2.2.2.1
  have key := loop_up (n := H) (P := fun i => ∀ (gi1 : GI) o8, (∀ s a j, s ≠ 79 → gi1 s a j = gi s a j) → (∀ j, j < i → SureV (gi1 79 0 j) (l ++ [f]) j) → (∀ j, i ≤ j → gi1 79 0 j = gi 79 0 j) → Runs d (m_M_fillings, 137, [some (.inr (.inr (some (12, 0)))), o1, some (.inl (n32 P)), some (.inl x3), some (.inl (n32 H)), some (.inl x5), some (.inl (n32 l.length)), some (.inl (n32 m)), o8, some (.inl (n32 i))], []) (gi1, g) Q) ?_ ?_
  · exact key 0 (Nat.zero_le _) gi _ (fun _ _ _ _ => rfl) (fun j hj => absurd hj (Nat.not_lt_zero j)) (fun _ _ => rfl)
  · intro i hi ih gi1 o8 f1 f2 f3
    have e78 : gi1 78 0 i = n32 (c i) := (f1 78 0 i (by decide)).trans (h78 i hi).1
    have hci := (h78 i hi).2
    have e74 : gi1 74 0 (c i) = n32 (f i) := (f1 74 0 _ (by decide)).trans ((h.1.2.2.2.2.2.2 _ hci).1.trans (by rw [hf i hi]))
    have hfi : f i < 10 := by rw [← hf i hi]; exact (h.1.2.2.2.2.2.2 _ hci).2
    have next : ∀ (v : Int32) o8, SureV v (l ++ [f]) i → Runs d (m_M_fillings, 193, [some (.inr (.inr (some (12, 0)))), o1, some (.inl (n32 P)), some (.inl x3), some (.inl (n32 H)), some (.inl x5), some (.inl (n32 l.length)), some (.inl (n32 m)), o8, some (.inl (n32 i))], [.inl v, .inl (n32 i), .inr (.inr (some (79, 0)))]) (gi1, g) Q := by
      intro v o8 hv
      rw [b_M_fillings_193, n32_clamp (by omega), n32_add]
      refine ⟨n32_in (by omega) (by omega), ?_⟩
      refine ih _ _ (fun s a j q => ?_) (fun j hj => ?_) (fun j hj => ?_)
      · rw [wI_ne q]
        exact f1 s a j q
      · rw [wI_at]
        by_cases z : j = i
        · rw [if_pos ⟨rfl, rfl, z⟩, z]
          exact hv
        · rw [if_neg (by omega)]
          exact f2 j (by omega)
      · rw [wI_at, if_neg (by omega)]
        exact f3 j (by omega)
    have part : ∀ o8, SureV (n32 (f i)) (l ++ [f]) i → Runs d (m_M_fillings, 177, [some (.inr (.inr (some (12, 0)))), o1, some (.inl (n32 P)), some (.inl x3), some (.inl (n32 H)), some (.inl x5), some (.inl (n32 l.length)), some (.inl (n32 m)), o8, some (.inl (n32 i))], [.inl (n32 i), .inr (.inr (some (79, 0)))]) (gi1, g) Q := by
      intro o8 hv
      rw [b_M_fillings_177, n32_clamp (by omega), e78, n32_clamp (by omega), e74]
      exact ⟨G_12_23 hG 0, G_12_37 hG 0, n32_in (by omega) (by omega), n32_in (by omega) (by omega), next _ _ hv⟩
    rw [b_M_fillings_137]
    refine ⟨fun _ => ?_, fun z => absurd (by rw [n32_lt (by omega) (by omega)]; exact hi) z⟩
    rw [b_M_fillings_144]
    refine ⟨G_12_38 hG 0, fun z => ?_, fun z => ?_⟩
    · rw [n32_eq (by omega) (by omega)] at z
      have hnil : l = [] := List.eq_nil_of_length_eq_zero z
      refine part _ ?_
      rw [hnil]
      exact SureV_one hfi
    · rw [n32_eq (by omega) (by omega)] at z
      have hnil : l ≠ [] := fun q => z (by rw [q]; rfl)
      have e79 : gi1 79 0 i = gi 79 0 i := f3 i (Nat.le_refl _)
      rw [b_M_fillings_155, n32_clamp (by omega), e78, n32_clamp (by omega), e74, e79]
      refine ⟨G_12_38 hG 0, n32_in (by omega) (by omega), G_12_23 hG 0, G_12_37 hG 0, n32_in (by omega) (by omega), n32_in (by omega) (by omega), fun y => ?_, fun y => ?_⟩
      · have hs := SureV_same (hS i hi hnil) hfi y
        rw [y] at hs
        exact part _ hs
      · rw [b_M_fillings_192]
        exact next _ _ (SureV_diff (hS i hi hnil) hnil y)
  · intro gi1 o8 f1 f2 f3
    rw [b_M_fillings_137]
    refine ⟨fun z => absurd z (by rw [n32_lt (by omega) (by omega)]; omega), fun _ => ?_⟩
    rw [b_M_fillings_200, n32_add]
    exact hq gi1 _ _ f1 (fun j hj _ => f2 j hj)
theorem fillings_loop {d t W T O dy sl P H sum : Nat} {b c B : Nat → Nat} {L : Option (List PC)} {gi : GI} {g : AG} {Q : Option AV → AH → Prop} (hG : GOK g) (hP : 2 ≤ P ∧ P ≤ 4) (hH : H ≤ 6) (hsum : sum ≤ 9999) (hinj : ∀ i j, i < H → j < H → c i = c j → i = j) (h : MFr gi t W T O dy sl L B) (hB : ∀ j, (∀ u, u < H → c u ≠ j) → B j = b j) (h78 : ∀ u, u < H → gi 78 0 u = n32 (c u) ∧ c u < W * T) (o1 o8 o9 : Option AV)
    (hq : ∀ gi', (∀ s a j, s ≠ 73 → s ≠ 74 → s ≠ 79 → ¬ (s = 12 ∧ (j = 19 ∨ j = 20 ∨ j = 21)) → gi' s a j = gi s a j) → FillMS gi' (lM P (solF L W T O dy sl b c H sum) H) H → Q (some (.inl (n32 (lM P (solF L W T O dy sl b c H sum) H).length))) (gi', g)) :
    Runs (d + 47) (m_M_fillings, 74, [some (.inr (.inr (some (12, 0)))), o1, some (.inl (n32 P)), some (.inl (n32 sum)), some (.inl (n32 H)), some (.inl (n32 (P ^ H))), some (.inl (n32 0)), some (.inl (n32 0)), o8, o9], []) (gi, g) Q := by
  have hpow : P ^ H ≤ 4096 := Nat.le_trans (Nat.pow_le_pow_left hP.2 _) (Nat.le_trans (Nat.pow_le_pow_right (by omega) hH) (by decide))
  have key := loop_up (n := P ^ H) (P := fun m => ∀ (gi1 : GI) (B1 : Nat → Nat) o8 o9, (∀ s a j, s ≠ 73 → s ≠ 74 → s ≠ 79 → ¬ (s = 12 ∧ (j = 19 ∨ j = 20 ∨ j = 21)) → gi1 s a j = gi s a j) → MFr gi1 t W T O dy sl L B1 → (∀ j, (∀ u, u < H → c u ≠ j) → B1 j = b j) → FillMS gi1 (catN (fun m => one1 (solF L W T O dy sl b c H sum) (dig P m)) m) H → Runs (d + 47) (m_M_fillings, 74, [some (.inr (.inr (some (12, 0)))), o1, some (.inl (n32 P)), some (.inl (n32 sum)), some (.inl (n32 H)), some (.inl (n32 (P ^ H))), some (.inl (n32 (catN (fun m => one1 (solF L W T O dy sl b c H sum) (dig P m)) m).length)), some (.inl (n32 m)), o8, o9], []) (gi1, g) Q) ?_ ?_
  · exact key 0 (Nat.zero_le _) gi B o8 o9 (fun _ _ _ _ _ _ _ => rfl) h hB (fun j hj q => absurd rfl q)
  · intro m hm ih gi1 B1 o8 o9 f1 hm1 hB1 hS1
    have hcl : (catN (fun m => one1 (solF L W T O dy sl b c H sum) (dig P m)) m).length ≤ m := by
      rw [catN_len]
      exact sumN_le1 (fun i => by rw [one1_len]; split <;> omega) m
    have q78 : ∀ u, u < H → gi1 78 0 u = n32 (c u) ∧ c u < W * T := fun u hu => ⟨(f1 78 0 u (by decide) (by decide) (by decide) (by omega)).trans (h78 u hu).1, (h78 u hu).2⟩
    rw [b_M_fillings_74]
    refine ⟨fun _ => ?_, fun z => absurd (by rw [n32_lt (by omega) (by omega)]; exact hm) z⟩
    rw [b_M_fillings_81]
    refine mf_digits hG hP hH (by omega) hinj hm1 hB1 q78 _ _ _ _ ?_
    intro gi2 o8' o9' f2 hm2
    have hm2' := hm2
    obtain ⟨hl, hL, h28, hO, hs, hW1, hT1, hO5, hdy, hsl⟩ := hm2
    rw [b_M_fillings_123]
    refine c_M_owesNow (D := d + 47) (by omega) hG hl hW1 hT1 hO hO5 h28 hdy hL hs hsl ?_
    intro gi3 fr3
    have hol := owes_le L W T O dy sl (fB b c (dig P m) H)
    have hm3 : MFr gi3 t W T O dy sl L (fB b c (dig P m) H) := MFr_of hm2' (fun j q1 q2 => fr3 12 0 j (taxMod_no (by omega))) (fun j => fr3 64 0 j rfl) (fun j => fr3 74 0 j rfl)
    have f3 : ∀ s a j, s ≠ 73 → s ≠ 74 → s ≠ 79 → ¬ (s = 12 ∧ (j = 19 ∨ j = 20 ∨ j = 21)) → gi3 s a j = gi s a j := fun s a j q1 q2 q3 q4 => by
      rw [fr3 s a j (taxMod_no (by omega)), f2 s a j q2]
      exact f1 s a j q1 q2 q3 q4
    have hS3 : FillMS gi3 (catN (fun m => one1 (solF L W T O dy sl b c H sum) (dig P m)) m) H := fun j hj q => by
      rw [fr3 79 0 j rfl, f2 79 0 j (by decide)]
      exact hS1 j hj q
    have hBn : ∀ j, (∀ u, u < H → c u ≠ j) → fB b c (dig P m) H j = b j := (fB_pre hinj (Nat.le_refl H)).2
    have hBf : ∀ u, u < H → fB b c (dig P m) H (c u) = dig P m u := (fB_pre hinj (Nat.le_refl H)).1
    simp only [ax_psh_some]
    rw [b_M_fillings_127]
    refine ⟨fun z => ?_, fun z => ?_⟩
    · rw [n32_eq (by omega) (by omega)] at z
      have hsol : one1 (solF L W T O dy sl b c H sum) (dig P m) = [dig P m] := by
        unfold one1 solF
        rw [decide_eq_true z, if_pos rfl]
      rw [b_M_fillings_134]
      refine mf_note hG hH hm3 (fun u hu => ⟨(f3 78 0 u (by decide) (by decide) (by decide) (by omega)).trans (h78 u hu).1, (h78 u hu).2⟩) hBf (by omega) hS3 _ _ _ _ ?_
      intro gi4 o8'' o9'' f4 hS4
      rw [b_M_fillings_203, n32_add]
      have e : (catN (fun m => one1 (solF L W T O dy sl b c H sum) (dig P m)) (m + 1)) = catN (fun m => one1 (solF L W T O dy sl b c H sum) (dig P m)) m ++ [dig P m] := by
        show _ ++ one1 _ _ = _
        rw [hsol]
      have := ih gi4 (fB b c (dig P m) H) o8'' o9'' (fun s a j q1 q2 q3 q4 => (f4 s a j q3).trans (f3 s a j q1 q2 q3 q4)) (MFr_of hm3 (fun j q1 q2 => f4 12 0 j (by decide)) (fun j => f4 64 0 j (by decide)) (fun j => f4 74 0 j (by decide))) hBn (by rw [e]; exact hS4)
      rw [e, List.length_append] at this
      exact this
    · rw [n32_eq (by omega) (by omega)] at z
      have hsol : one1 (solF L W T O dy sl b c H sum) (dig P m) = [] := by
        unfold one1 solF
        rw [decide_eq_false z, if_neg (by simp)]
      rw [b_M_fillings_131, b_M_fillings_203, n32_add]
      have e : (catN (fun m => one1 (solF L W T O dy sl b c H sum) (dig P m)) (m + 1)) = catN (fun m => one1 (solF L W T O dy sl b c H sum) (dig P m)) m := by
        show _ ++ one1 _ _ = _
        rw [hsol, List.append_nil]
      have := ih gi3 (fB b c (dig P m) H) o8' o9' f3 hm3 hBn (by rw [e]; exact hS3)
      rw [e] at this
      exact this
  · intro gi1 B1 o8 o9 f1 hm1 hB1 hS1
    rw [b_M_fillings_74]
    refine ⟨fun z => absurd z (by rw [n32_lt (by omega) (by omega)]; omega), fun _ => ?_⟩
    rw [b_M_fillings_209]
    exact hq gi1 f1 hS1
/-- by what is kept -/
def hoK (K : Nat → Int32) (t : Nat) : Nat := (hl (hk K t) (Wk K t * Tk K t)).length
def hcK (K : Nat → Int32) (t : Nat) : Nat → Nat := hc (hk K t) (Wk K t * Tk K t)
def soK (K : Nat → Int32) (Ls : Nat → List PC) (t sum : Nat) : FF → Bool := solF (lawL Ls (K 798)) (Wk K t) (Tk K t) (Ok K t) (dyk K) (slk K) (bk K t) (hcK K t) (hoK K t) sum
def lCK (K : Nat → Int32) (Ls : Nat → List PC) (t P sum : Nat) : List FF := lC P (soK K Ls t sum) (hoK K t) 0 (fun _ => 0)
def lMK (K : Nat → Int32) (Ls : Nat → List PC) (t P sum : Nat) : List FF := lM P (soK K Ls t sum) (hoK K t)
theorem soK_dep {K : Nat → Int32} {Ls : Nat → List PC} {t sum : Nat} : ∀ f f' : FF, (∀ i, i < hoK K t → f i = f' i) → soK K Ls t sum f = soK K Ls t sum f' := fun f f' h => by
  unfold soK solF
  rw [fB_congr h]
theorem hoK_le {gi : GI} {g : AG} {Ls : Nat → List PC} {nt m t : Nat} {K : Nat → Int32} (hB : BK gi g Ls nt m K) (ht : t < nt) : hoK K t ≤ 6 ∧ (∀ i, i < hoK K t → hcK K t i < Wk K t * Tk K t ∧ hk K t (hcK K t i) = 1) ∧ (∀ i j, i < hoK K t → j < hoK K t → hcK K t i = hcK K t j → i = j) := by
  have hv := thing_b hB ht
  have h64 := wt64 hv.1.2.2.2.1.2 hv.1.2.2.2.2.1.2
  refine ⟨?_, fun i hi => hc_mem hi, fun i j hi hj e => hc_inj hi hj e⟩
  unfold hoK
  rw [hl_len (fun c hc => (hv.2.2.2.2.2.1 c (by omega)).2.2)]
  exact hv.2.2.2.2.2.2
theorem c_M_fillings {d t nt m P sum : Nat} {gi : GI} {g : AG} {Ls : Nat → List PC} {Q : Option AV → AH → Prop} (hB : BK gi g Ls nt m (gi 64 0)) (ht : t < nt) (hP : 2 ≤ P ∧ P ≤ 4) (hsum : sum ≤ 9999)
    (hq : ∀ gi', Fr mlMod gi gi' → (∀ i, i < hoK (gi 64 0) t → gi' 78 0 i = n32 (hcK (gi 64 0) t i)) → FillMS gi' (lMK (gi 64 0) Ls t P sum) (hoK (gi 64 0) t) → Q (some (.inl (n32 (lMK (gi 64 0) Ls t P sum).length))) (gi', g)) :
    ax_call (d + 48) m_M_fillings [.inr (.inr (some (12, 0))), .inl (n32 t), .inl (n32 P), .inl (n32 sum)] (gi, g) Q := by
  have hG := hB.2.1
  have n6 := hB.2.2.1.1
  have hv' := thing_b hB ht
  have hW := hv'.1.2.2.2.1
  have hT := hv'.1.2.2.2.2.1
  have h64 := wt64 hW.2 hT.2
  have hL := lawM_b hB hB.2.2.1.2.2.2.2.2.2.2.1
  obtain ⟨⟨t1, t2⟩, ⟨t3, t4⟩, -, -⟩ := terms_k hB.2.2.1.2.2.2.2.2.2.2.2.1
  obtain ⟨hH6, hcm, hinj⟩ := hoK_le hB ht
  have hhk : ∀ c, c < 64 → gi 64 0 (132 * t + (68 + c)) = n32 (hk (gi 64 0) t c) ∧ hk (gi 64 0) t c ≤ 1 := fun c hc => (hv'.2.2.2.2.2.1 c hc).2
  rw [e_M_fillings, b_M_fillings_0]
  refine c_M_lays (d := d + 45) hG (by omega) hv'.2.1 ?_
  intro gi1 fr1 hl1 h27 h28
  have e64 : ∀ j, gi1 64 0 j = gi 64 0 j := fun j => fr1 64 0 j rfl
  have hm1 : MFr gi1 t (Wk (gi 64 0) t) (Tk (gi 64 0) t) (Ok (gi 64 0) t) (dyk (gi 64 0)) (slk (gi 64 0)) (lawL Ls (gi 64 0 798)) (bk (gi 64 0) t) := by
    refine ⟨hl1, ?_, ?_, ?_, ?_, hW.1, hT.1, hv'.2.2.1, by omega, by omega⟩
    · exact ForceM_LawM (gi := gi) hL h27 e64
    · rw [h28]
      exact t3
    · rw [e64]
      exact hv'.2.1.2.2.1
    · rw [e64]
      exact t1
  simp only [b_M_fillings_5, ax_psh_none, ax_psh_some, true_and, and_true, and_false, false_and, not_true_eq_false, not_false_eq_true, true_imp_iff, false_imp_iff, imp_self, or_true, true_or, or_false, false_or, and_self, ite_true, ite_false, if_true, if_false]
  have mono : ∀ i, i ≤ Wk (gi 64 0) t * Tk (gi 64 0) t → (hl (hk (gi 64 0) t) i).length ≤ hoK (gi 64 0) t := by
    intro i hi
    refine loop_up (n := Wk (gi 64 0) t * Tk (gi 64 0) t) (P := fun i => (hl (hk (gi 64 0) t) i).length ≤ hoK (gi 64 0) t) (fun i hi ih => ?_) (Nat.le_refl _) i hi
    have hle : (hl (hk (gi 64 0) t) i).length ≤ (hl (hk (gi 64 0) t) (i + 1)).length := by
      show _ ≤ (if hk (gi 64 0) t i = 1 then hl (hk (gi 64 0) t) i ++ [i] else hl (hk (gi 64 0) t) i).length
      split
      · rw [List.length_append]
        omega
      · exact Nat.le_refl _
    omega
  have key := loop_up (n := Wk (gi 64 0) t * Tk (gi 64 0) t) (P := fun i => ∀ (gi2 : GI) o7 o8 o9, (∀ s a j, s ≠ 78 → gi2 s a j = gi1 s a j) → (∀ k, k < (hl (hk (gi 64 0) t) i).length → gi2 78 0 k = n32 ((hl (hk (gi 64 0) t) i).getD k 0)) → Runs (d + 47) (m_M_fillings, 14, [some (.inr (.inr (some (12, 0)))), some (.inl (n32 t)), some (.inl (n32 P)), some (.inl (n32 sum)), some (.inl (n32 (hl (hk (gi 64 0) t) i).length)), some (.inl (n32 (P ^ (hl (hk (gi 64 0) t) i).length))), some (.inl (n32 i)), o7, o8, o9], []) (gi2, g) Q) ?_ ?_
  · exact key 0 (Nat.zero_le _) gi1 _ _ _ (fun _ _ _ _ => rfl) (fun k hk => absurd hk (Nat.not_lt_zero k))
  · intro i hi ih gi2 o7 o8 o9 f2 f78
    have e25 : gi2 12 0 25 = n32 (Wk (gi 64 0) t) := (f2 12 0 25 (by decide)).trans hl1.2.1
    have e26 : gi2 12 0 26 = n32 (Tk (gi 64 0) t) := (f2 12 0 26 (by decide)).trans hl1.2.2.1
    have e68 : gi2 64 0 (132 * t + (68 + i)) = n32 (hk (gi 64 0) t i) := (f2 64 0 _ (by decide)).trans ((e64 _).trans (hhk i (by omega)).1)
    have hm1' := mono (i + 1) (by omega)
    rw [b_M_fillings_14]
    by_cases z : hk (gi 64 0) t i = 1
    · have el : hl (hk (gi 64 0) t) (i + 1) = hl (hk (gi 64 0) t) i ++ [i] := if_pos z
      have ell : (hl (hk (gi 64 0) t) (i + 1)).length = (hl (hk (gi 64 0) t) i).length + 1 := by rw [el, List.length_append]; rfl
      simp (disch := omega) only [b_M_fillings_28, b_M_fillings_38, b_M_fillings_44, b_M_fillings_62, c_M_factOf _ _ _ _ hG, e25, e26, hi, e68, z, G_0_0 hG, G_0_1 hG, G_0_2 hG, G_0_3 hG, G_0_7 hG, G_0_10 hG, G_0_12 hG, G_0_13 hG, G_0_14 hG, G_0_15 hG, G_0_16 hG, G_0_17 hG, G_1_0 hG, G_1_2 hG, G_1_5 hG, G_2_4 hG, G_2_5 hG, G_3_5 hG, G_3_6 hG, G_3_7 hG, G_3_8 hG, G_3_9 hG, G_5_0 hG, G_5_1 hG, G_6_0 hG, G_6_1 hG, G_6_2 hG, G_6_9 hG, G_6_10 hG, G_6_11 hG, G_6_12 hG, G_6_13 hG, G_7_0 hG, G_7_5 hG, G_8_8 hG, G_8_9 hG, G_9_8 hG, G_9_9 hG, G_10_7 hG, G_10_8 hG, G_10_9 hG, G_10_10 hG, G_10_11 hG, G_11_0 hG, G_12_2 hG, G_12_3 hG, G_12_4 hG, G_12_5 hG, G_12_7 hG, G_12_8 hG, G_12_9 hG, G_12_12 hG, G_12_13 hG, G_12_14 hG, G_12_22 hG, G_12_23 hG, G_12_29 hG, G_12_30 hG, G_12_31 hG, G_12_37 hG, G_12_38 hG, G_12_39 hG, G_12_40 hG, G_12_41 hG, G_12_43 hG, G_12_46 hG, G_12_47 hG, G_12_48 hG, G_25 hG, G_26 hG, G_47 hG, G_58 hG, n32_add, n32_mul, n32_lt, n32_le, n32_eq, n32_clamp, n32_inT, n32_div, n32_rem, n32_m1, n32_m1', n32_m1lt, n32_ltm1, n32_10, n32_01, Nat.not_lt_zero, Nat.lt_irrefl, Nat.mul_zero, Nat.zero_mul, Nat.zero_add, Nat.add_zero, Nat.reduceEqDiff, Nat.one_ne_zero, Nat.zero_ne_one, ax_psh_none, ax_psh_some, true_and, and_true, and_false, false_and, not_true_eq_false, not_false_eq_true, true_imp_iff, false_imp_iff, imp_self, or_true, true_or, or_false, false_or, and_self, ite_true, ite_false, if_true, if_false]
      have := ih (ax_wI gi2 78 0 (hl (hk (gi 64 0) t) i).length (n32 i)) o7 o8 o9 (fun s a j q => ?_) (fun k hk' => ?_)
      · rw [ell, Nat.pow_succ] at this
        exact this
      · rw [wI_ne q]
        exact f2 s a j q
      · rw [wI_at, el, getD_app]
        by_cases q : k = (hl (hk (gi 64 0) t) i).length
        · rw [if_pos ⟨rfl, rfl, q⟩, if_neg (by omega), if_pos q]
        · rw [if_neg (by omega), if_pos (by omega)]
          exact f78 k (by omega)
    · have el : hl (hk (gi 64 0) t) (i + 1) = hl (hk (gi 64 0) t) i := if_neg z
      have z0 : hk (gi 64 0) t i = 0 := by
        have := (hhk i (by omega)).2
        omega
      simp (disch := omega) only [b_M_fillings_28, b_M_fillings_38, b_M_fillings_41, b_M_fillings_62, c_M_factOf _ _ _ _ hG, e25, e26, hi, e68, z0, G_0_0 hG, G_0_1 hG, G_0_2 hG, G_0_3 hG, G_0_7 hG, G_0_10 hG, G_0_12 hG, G_0_13 hG, G_0_14 hG, G_0_15 hG, G_0_16 hG, G_0_17 hG, G_1_0 hG, G_1_2 hG, G_1_5 hG, G_2_4 hG, G_2_5 hG, G_3_5 hG, G_3_6 hG, G_3_7 hG, G_3_8 hG, G_3_9 hG, G_5_0 hG, G_5_1 hG, G_6_0 hG, G_6_1 hG, G_6_2 hG, G_6_9 hG, G_6_10 hG, G_6_11 hG, G_6_12 hG, G_6_13 hG, G_7_0 hG, G_7_5 hG, G_8_8 hG, G_8_9 hG, G_9_8 hG, G_9_9 hG, G_10_7 hG, G_10_8 hG, G_10_9 hG, G_10_10 hG, G_10_11 hG, G_11_0 hG, G_12_2 hG, G_12_3 hG, G_12_4 hG, G_12_5 hG, G_12_7 hG, G_12_8 hG, G_12_9 hG, G_12_12 hG, G_12_13 hG, G_12_14 hG, G_12_22 hG, G_12_23 hG, G_12_29 hG, G_12_30 hG, G_12_31 hG, G_12_37 hG, G_12_38 hG, G_12_39 hG, G_12_40 hG, G_12_41 hG, G_12_43 hG, G_12_46 hG, G_12_47 hG, G_12_48 hG, G_25 hG, G_26 hG, G_47 hG, G_58 hG, n32_add, n32_mul, n32_lt, n32_le, n32_eq, n32_clamp, n32_inT, n32_div, n32_rem, n32_m1, n32_m1', n32_m1lt, n32_ltm1, n32_10, n32_01, Nat.not_lt_zero, Nat.lt_irrefl, Nat.mul_zero, Nat.zero_mul, Nat.zero_add, Nat.add_zero, Nat.reduceEqDiff, Nat.one_ne_zero, Nat.zero_ne_one, ax_psh_none, ax_psh_some, true_and, and_true, and_false, false_and, not_true_eq_false, not_false_eq_true, true_imp_iff, false_imp_iff, imp_self, or_true, true_or, or_false, false_or, and_self, ite_true, ite_false, if_true, if_false]
      have := ih gi2 o7 o8 o9 f2 (by rw [el]; exact f78)
      rw [el] at this
      exact this
  · intro gi2 o7 o8 o9 f2 f78
    have e25 : gi2 12 0 25 = n32 (Wk (gi 64 0) t) := (f2 12 0 25 (by decide)).trans hl1.2.1
    have e26 : gi2 12 0 26 = n32 (Tk (gi 64 0) t) := (f2 12 0 26 (by decide)).trans hl1.2.2.1
    rw [b_M_fillings_14]
    simp (disch := omega) only [b_M_fillings_68, e25, e26, n32_add, n32_mul, n32_lt, n32_le, n32_eq, n32_clamp, n32_inT, n32_div, n32_rem, n32_m1, n32_m1', n32_m1lt, n32_ltm1, n32_10, n32_01, Nat.not_lt_zero, Nat.lt_irrefl, Nat.mul_zero, Nat.zero_mul, Nat.zero_add, Nat.add_zero, Nat.reduceEqDiff, Nat.one_ne_zero, Nat.zero_ne_one, ax_psh_none, ax_psh_some, true_and, and_true, and_false, false_and, not_true_eq_false, not_false_eq_true, true_imp_iff, false_imp_iff, imp_self, or_true, true_or, or_false, false_or, and_self, ite_true, ite_false, if_true, if_false]
    have hm2 := MFr_of hm1 (gi' := gi2) (fun j _ _ => f2 12 0 j (by decide)) (fun j => f2 64 0 j (by decide)) (fun j => f2 74 0 j (by decide))
    refine fillings_loop (d := d) (H := hoK (gi 64 0) t) (c := hcK (gi 64 0) t) (b := bk (gi 64 0) t) hG hP hH6 hsum hinj hm2 (fun _ _ => rfl) (fun u hu => ⟨f78 u hu, (hcm u hu).1⟩) _ _ _ ?_
    intro gi3 f3 hS3
    refine hq gi3 (fun s a j q => ?_) (fun i hi => ?_) hS3
    · have := mlMod_f q
      rw [f3 s a j (by omega) (by omega) (by omega) (by omega), f2 s a j (by omega)]
      exact ml_l fr1 s a j q
    · rw [f3 78 0 i (by decide) (by decide) (by decide) (by omega)]
      exact f78 i hi
