/-! fills: the class -/
def FillS (gi : GI) (l : List FF) (H : Nat) : Prop := gi 9 0 6 = n32 l.length ∧ ∀ j, j < H → l ≠ [] → SureV (gi 46 0 j) l j
theorem FillS_of {gi gi' : GI} {l : List FF} {H : Nat} (h : FillS gi l H) (h6 : gi' 9 0 6 = gi 9 0 6) (h46 : ∀ j, gi' 46 0 j = gi 46 0 j) : FillS gi' l H := ⟨h6.trans h.1, fun j hj q => by rw [h46]; exact h.2 j hj q⟩
def flMod (s j : Nat) : Bool := s == 3 || (Nat.ble 54 s && Nat.ble s 57) || s == 59 || s == 39 || s == 40 || s == 41 || s == 42 || (s == 5 && (j == 2 || j == 3)) || (s == 9 && j == 6) || s == 46
theorem flMod_f {s j : Nat} (h : flMod s j = false) : ¬ (s = 3 ∨ (54 ≤ s ∧ s ≤ 57) ∨ s = 59 ∨ (39 ≤ s ∧ s ≤ 42) ∨ (s = 5 ∧ (j = 2 ∨ j = 3)) ∨ (s = 9 ∧ j = 6) ∨ s = 46) := by
  unfold flMod at h
  have hb : ∀ x y : Nat, Nat.ble x y = true ↔ x ≤ y := fun x y => by rw [Nat.ble_eq]
  rw [← Bool.not_eq_true] at h
  simp only [Bool.or_eq_true, Bool.and_eq_true, beq_iff_eq, hb] at h
  omega
theorem fl_P {gi gi' : GI} {t : Nat} (h : OnlyP t gi gi') : Fr flMod gi gi' := fun s a j q => by
  have := flMod_f q
  exact h s a j (by omega) (by omega) (by omega)
theorem fl_clk {gi gi' : GI} (h : Fr clkMod gi gi') : Fr flMod gi gi' := Fr_mono h (fun s j q => clkMod_no (by have := flMod_f q; omega))
theorem c_lfound {d t W T O H : Nat} {B c : Nat → Nat} {f : FF} {l : List FF} {gi : GI} {g : AG} {Q : Option AV → AH → Prop} (hG : GOK g) (g91 : g.1 9 0 1 = some (3, t)) (hP : Pap gi t W T O B) (hH : H ≤ 6) (h7 : gi 9 0 7 = n32 H) (h45 : ∀ i, i < H → gi 45 0 i = n32 (c i) ∧ c i < W * T) (hf : ∀ i, i < H → B (c i) = f i) (hl : l.length < 1000000) (hS : FillS gi l H)
    (hq : ∀ gi', (∀ s a j, s ≠ 46 → ¬ (s = 9 ∧ a = 0 ∧ j = 6) → gi' s a j = gi s a j) → FillS gi' (l ++ [f]) H → Q none (gi', g)) :
    ax_call (d + 1) m_Filling_found [.inr (.inr (some (9, 0)))] (gi, g) Q := by
  have hW := hP.1.2.2.2.1
  have hT := hP.1.2.2.2.2.1
  have h64 := wt64 hW.2 hT.2
  have erid : ax_rid (g.1 9 0 1) = t := by rw [g91]; rfl
  have key := loop_up (n := H) (P := fun i => ∀ (gi1 : GI) o2, (∀ s a j, s ≠ 46 → gi1 s a j = gi s a j) → (∀ j, j < i → SureV (gi1 46 0 j) (l ++ [f]) j) → (∀ j, i ≤ j → gi1 46 0 j = gi 46 0 j) → Runs d (m_Filling_found, 2, [some (.inr (.inr (some (9, 0)))), some (.inl (n32 i)), o2], []) (gi1, g) Q) ?_ ?_
  · rw [e_Filling_found, b_Filling_found_0]
    exact key 0 (Nat.zero_le _) gi _ (fun _ _ _ _ => rfl) (fun j hj => absurd hj (Nat.not_lt_zero j)) (fun _ _ => rfl)
  · intro i hi ih gi1 o2 f1 f2 f3
    have e7 : gi1 9 0 7 = n32 H := (f1 9 0 7 (by decide)).trans h7
    have e6 : gi1 9 0 6 = n32 l.length := (f1 9 0 6 (by decide)).trans hS.1
    have e45 : gi1 45 0 i = n32 (c i) := (f1 45 0 i (by decide)).trans (h45 i hi).1
    have hci := (h45 i hi).2
    have e54 : gi1 54 t (c i) = n32 (f i) := (f1 54 t _ (by decide)).trans ((hP.2.2.2.1 _ (by omega)).trans (by rw [hf i hi]))
    have hfi : f i < 10 := by rw [← hf i hi]; exact hP.2.2.2.2.1 _ hci
    have next : ∀ (v : Int32) o2, SureV v (l ++ [f]) i → Runs d (m_Filling_found, 59, [some (.inr (.inr (some (9, 0)))), some (.inl (n32 i)), o2], []) (ax_wI gi1 46 0 i v, g) Q := by
      intro v o2 hv
      rw [b_Filling_found_59, n32_add]
      refine ih _ _ (fun s a j q => ?_) (fun j hj => ?_) (fun j hj => ?_)
      · rw [wI_ne q]
        exact f1 s a j q
      · rw [wI_at]
        by_cases z : j = i
        · rw [if_pos ⟨rfl, rfl, z⟩, z]
          exact hv
        · rw [if_neg (by omega)]
          exact f2 j (by omega)
      · rw [wI_at, if_neg (by omega)]
        exact f3 j (by omega)
    rw [b_Filling_found_2, e7]
    refine ⟨fun _ => ?_, fun z => absurd (by rw [n32_lt (by omega) (by omega)]; exact hi) z⟩
    rw [b_Filling_found_10, erid, n32_clamp (by omega), e45, n32_clamp (by omega), e6, e54]
    refine ⟨g91, G_3_5 hG t, G_9_8 hG 0, n32_in (by omega) (by omega), n32_in (by omega) (by omega), fun z => ?_, fun z => ?_⟩
    · rw [n32_eq (by omega) (by omega)] at z
      have hnil : l = [] := List.eq_nil_of_length_eq_zero z
      rw [b_Filling_found_32, n32_clamp (by omega)]
      refine ⟨G_9_9 hG 0, n32_in (by omega) (by omega), next _ _ ?_⟩
      rw [hnil]
      exact SureV_one hfi
    · rw [n32_eq (by omega) (by omega)] at z
      have hnil : l ≠ [] := fun q => z (by rw [q]; rfl)
      have e46 : gi1 46 0 i = gi 46 0 i := f3 i (Nat.le_refl _)
      rw [b_Filling_found_42, n32_clamp (by omega), e46]
      refine ⟨G_9_9 hG 0, n32_in (by omega) (by omega), fun y => ?_, fun y => ?_⟩
      · have := next (gi 46 0 i) (some (.inl (n32 (f i)))) (SureV_same (hS.2 i hi hnil) hfi y)
        rw [wI_same e46] at this
        exact this
      · rw [b_Filling_found_52, n32_clamp (by omega)]
        exact ⟨G_9_9 hG 0, n32_in (by omega) (by omega), next _ _ (SureV_diff (hS.2 i hi hnil) hnil y)⟩
  · intro gi1 o2 f1 f2 f3
    have e7 : gi1 9 0 7 = n32 H := (f1 9 0 7 (by decide)).trans h7
    have e6 : gi1 9 0 6 = n32 l.length := (f1 9 0 6 (by decide)).trans hS.1
    rw [b_Filling_found_2, e7]
    refine ⟨fun z => absurd z (by rw [n32_lt (by omega) (by omega)]; omega), fun _ => ?_⟩
    rw [b_Filling_found_65, e6, n32_add]
    refine hq _ (fun s a j q1 q2 => ?_) ⟨?_, fun j hj _ => ?_⟩
    · rw [wI_at, if_neg q2]
      exact f1 s a j q1
    · rw [wI_self, List.length_append]
      rfl
    · rw [wI_ne (by decide)]
      exact f2 j hj
def solF (L : Option (List PC)) (W T O dy sl : Nat) (b c : Nat → Nat) (H sum : Nat) (f : FF) : Bool := decide (owesF L W T O dy sl (fB b c f H) = sum)
theorem owes_le (L : Option (List PC)) (W T O dy sl : Nat) (B : Nat → Nat) : owesF L W T O dy sl B ≤ 6 * 999 := by
  unfold owesF
  have lk := likes_36 W T
  have := sumN_le999 (f := fun l => if offF W T B l ≤ sl then txO L (envF l (offF W T B l) W T O dy (ptsF (W * T) B)) else 0) (fun i => by
    split
    · exact txO_le _ _
    · omega) (likes W T)
  rcases lk with e | e <;> rw [e] at this ⊢ <;> omega
theorem lC_le {P : Nat} {sol : FF → Bool} (k i : Nat) (f : FF) : (lC P sol k i f).length ≤ P ^ k := by
  rw [lC_len]
  exact sumN_le1 (fun m => by split <;> omega) _
theorem c_fillFrom {t W T O dy sl s P H sum : Nat} {b c : Nat → Nat} {lw : AR} {L : Option (List PC)} {g : AG} (hG : GOK g) (ht6 : t < 6) (hP4 : P ≤ 4) (hH : H ≤ 6) (hsum : sum ≤ 9999) (hinj : ∀ i j, i < H → j < H → c i = c j → i = j) (g90 : g.1 9 0 0 = some (7, 0)) (g91 : g.1 9 0 1 = some (3, t)) : ∀ (k d i : Nat) (f : FF) (B : Nat → Nat) (l : List FF) (gi : GI) (Q : Option AV → AH → Prop), i + k = H → (∀ u, u < i → f u < 10) → l.length + P ^ k < 1000000 → ClerkOn gi g t W T O dy sl s lw L → Pap gi t W T O B → PreB B b c H f i → (∀ u, u < 6 → PaperInv gi u) → gi 9 0 3 = n32 P → gi 9 0 4 = n32 sum → gi 9 0 7 = n32 H → (∀ u, u < H → gi 45 0 u = n32 (c u) ∧ c u < W * T) → FillS gi l H →
    (∀ gi' B', Fr flMod gi gi' → ClerkOn gi' g t W T O dy sl s lw L → Pap gi' t W T O B' → PreB B' b c H f i → (∀ u, u < 6 → PaperInv gi' u) → FillS gi' (l ++ lC P (solF L W T O dy sl b c H sum) k i f) H → Q none (gi', g)) →
    ax_call (d + 6 + k) m_Filling_fillFrom [.inr (.inr (some (9, 0))), .inl (n32 i)] (gi, g) Q := by
  intro k
  have ne0 : ¬ g.1 9 0 0 = none := by rw [g90]; simp
  have ne1 : ¬ g.1 9 0 1 = none := by rw [g91]; simp
  have erid0 : ax_rid (g.1 9 0 0) = 0 := by rw [g90]; rfl
  have erid : ax_rid (g.1 9 0 1) = t := by rw [g91]; rfl
  induction k with
  | zero =>
    intro d i f B l gi Q hik hfu hlb hC hP hPre hPI h3 h4 h7 h45 hS hq
    have hiH : i = H := by omega
    subst hiH
    have hB : B = fB b c f i := PreB_eq hinj hPre
    have hol := owes_le L W T O dy sl B
    rw [show d + 6 + 0 = d + 5 + 1 by omega, e_Filling_fillFrom, b_Filling_fillFrom_0]
    refine ⟨fun z => absurd z ne0, fun _ => ?_⟩
    rw [b_Filling_fillFrom_7]
    refine ⟨fun z => absurd z ne1, fun _ => ?_⟩
    rw [b_Filling_fillFrom_15, h7]
    refine ⟨fun z => absurd z (by rw [n32_lt (by omega) (by omega)]; omega), fun _ => ?_⟩
    rw [b_Filling_fillFrom_23, erid0]
    refine ⟨g90, ?_⟩
    refine c_owed (d := d) hG hC hP ?_
    intro gi1 fr1 hC1
    have hP1 := Pap_clk hP fr1
    have hPI1 : ∀ u, u < 6 → PaperInv gi1 u := fun u hu => PaperInv_of (hPI u hu) (fun j => fr1 3 u j rfl) (fun a j => fr1 59 a j rfl)
    have hS1 := FillS_of hS (fr1 9 0 6 rfl) (fun j => fr1 46 0 j rfl)
    have e4 : gi1 9 0 4 = n32 sum := (fr1 9 0 4 rfl).trans h4
    simp only [ax_psh_some]
    rw [b_Filling_fillFrom_30, e4]
    refine ⟨fun z => ?_, fun z => ?_⟩
    · rw [n32_eq (by omega) (by omega)] at z
      have hsol : solF L W T O dy sl b c i sum f = true := by
        unfold solF
        rw [← hB]
        exact decide_eq_true z
      rw [b_Filling_fillFrom_37]
      refine c_lfound (d := d + 4) (f := f) hG g91 hP1 hH ((fr1 9 0 7 rfl).trans h7) (fun u hu => ⟨(fr1 45 0 u rfl).trans (h45 u hu).1, (h45 u hu).2⟩) (fun u hu => hPre.1 u hu) (by simp only [Nat.pow_zero] at hlb; omega) hS1 ?_
      intro gi2 f2 hS2
      simp only [b_Filling_fillFrom_41, ax_psh_none, ax_psh_some, true_and, and_true, and_false, false_and, not_true_eq_false, not_false_eq_true, true_imp_iff, false_imp_iff, imp_self, or_true, true_or, or_false, false_or, and_self, ite_true, ite_false, if_true, if_false]
      refine hq gi2 B (Fr_trans (fl_clk fr1) (fun s a j q => ?_)) (ClerkOn_of hG hC1 (fun s a j q => f2 s a j (by omega) (by omega))) ?_ hPre (fun u hu => PaperInv_of (hPI1 u hu) (fun j => f2 3 u j (by decide) (by omega)) (fun a j => f2 59 a j (by decide) (by omega))) ?_
      · have := flMod_f q
        exact f2 s a j (by omega) (by omega)
      · obtain ⟨⟨p0, p1, p4, pW, pT, pw⟩, h2, h3, h54, hb, h55, h56⟩ := hP1
        exact ⟨⟨(f2 _ _ _ (by decide) (by omega)).trans p0, (f2 _ _ _ (by decide) (by omega)).trans p1, (f2 _ _ _ (by decide) (by omega)).trans p4, pW, pT, fun f hf c hc => (f2 _ _ _ (by decide) (by omega)).trans (pw f hf c hc)⟩, (f2 _ _ _ (by decide) (by omega)).trans h2, (f2 _ _ _ (by decide) (by omega)).trans h3, fun c hc => (f2 _ _ _ (by decide) (by omega)).trans (h54 c hc), hb, fun l hl => (f2 _ _ _ (by decide) (by omega)).trans (h55 l hl), fun p hp => (f2 _ _ _ (by decide) (by omega)).trans (h56 p hp)⟩
      · show FillS gi2 (l ++ one1 _ f) i
        unfold one1
        rw [if_pos hsol]
        exact hS2
    · rw [n32_eq (by omega) (by omega)] at z
      have hsol : solF L W T O dy sl b c i sum f = false := by
        unfold solF
        rw [← hB]
        exact decide_eq_false z
      rw [b_Filling_fillFrom_41]
      refine hq gi1 B (fl_clk fr1) hC1 hP1 hPre hPI1 ?_
      show FillS gi1 (l ++ one1 _ f) i
      unfold one1
      rw [if_neg (by rw [hsol]; simp), List.append_nil]
      exact hS1
  | succ k ihk =>
    intro d i f B l gi Q hik hfu hlb hC hP hPre hPI h3 h4 h7 h45 hS hq
    have hi : i < H := by omega
    have hpw : P ^ (k + 1) = P * P ^ k := by rw [Nat.pow_succ, Nat.mul_comm]
    have key := loop_up (n := P) (P := fun p => ∀ (gi1 : GI) (B1 : Nat → Nat), Fr flMod gi gi1 → ClerkOn gi1 g t W T O dy sl s lw L → Pap gi1 t W T O B1 → PreB B1 b c H f i → (∀ u, u < 6 → PaperInv gi1 u) → FillS gi1 (l ++ catN (fun p => lC P (solF L W T O dy sl b c H sum) k (i + 1) (updB f i p)) p) H → Runs (d + 6 + k) (m_Filling_fillFrom, 44, [some (.inr (.inr (some (9, 0)))), some (.inl (n32 i)), some (.inl (n32 p))], []) (gi1, g) Q) ?_ ?_
    · rw [show d + 6 + (k + 1) = d + 6 + k + 1 by omega, e_Filling_fillFrom, b_Filling_fillFrom_0]
      refine ⟨fun z => absurd z ne0, fun _ => ?_⟩
      rw [b_Filling_fillFrom_7]
      refine ⟨fun z => absurd z ne1, fun _ => ?_⟩
      rw [b_Filling_fillFrom_15, h7]
      refine ⟨fun _ => ?_, fun z => absurd (by rw [n32_lt (by omega) (by omega)]; exact hi) z⟩
      rw [b_Filling_fillFrom_42]
      refine key 0 (Nat.zero_le _) gi B (Fr_refl _ _) hC hP hPre hPI ?_
      show FillS gi (l ++ []) H
      rw [List.append_nil]
      exact hS
    · intro p hp ih gi1 B1 fr hC1 hP1 hPre1 hPI1 hS1
      have e3 : gi1 9 0 3 = n32 P := (fr 9 0 3 rfl).trans h3
      have e45 : gi1 45 0 i = n32 (c i) := (fr 45 0 i rfl).trans (h45 i hi).1
      have hlen : (catN (fun p => lC P (solF L W T O dy sl b c H sum) k (i + 1) (updB f i p)) p).length ≤ p * P ^ k := by
        rw [catN_len]
        exact sumN_le (fun q _ => lC_le k (i + 1) (updB f i q))
      have hmu : p * P ^ k + P ^ k ≤ P * P ^ k := by
        rw [← Nat.succ_mul]
        exact Nat.mul_le_mul_right _ (by omega)
      rw [b_Filling_fillFrom_44, e3]
      refine ⟨fun _ => ?_, fun z => absurd (by rw [n32_lt (by omega) (by omega)]; exact hp) z⟩
      rw [b_Filling_fillFrom_52, erid, n32_clamp (by omega), e45]
      refine ⟨g91, G_9_8 hG 0, n32_in (by omega) (by omega), ?_⟩
      rw [show d + 6 + k = d + 4 + k + 2 by omega]
      refine c_put (d := d + 4 + k) hG ht6 hP1 (h45 i hi).2 (by omega) ?_
      intro gi2 ho2 hP2
      rw [show d + 4 + k + 2 = d + 6 + k by omega]
      simp only [b_Filling_fillFrom_66, n32_add, ax_psh_none, ax_psh_some, true_and, and_true, and_false, false_and, not_true_eq_false, not_false_eq_true, true_imp_iff, false_imp_iff, imp_self, or_true, true_or, or_false, false_or, and_self, ite_true, ite_false, if_true, if_false]
      have o2 : ∀ s a j, ¬ (s = 3 ∨ (54 ≤ s ∧ s ≤ 57) ∨ s = 59) → gi2 s a j = gi1 s a j := fun s a j q => ho2 s a j (by omega) (by omega) (by omega)
      have fr2 : Fr flMod gi gi2 := Fr_trans fr (fl_P ho2)
      refine ihk d (i + 1) (updB f i p) (updB B1 (c i) p) (l ++ catN (fun p => lC P (solF L W T O dy sl b c H sum) k (i + 1) (updB f i p)) p) gi2 _ (by omega) (fun u hu => ?_) (by rw [List.length_append]; omega) (ClerkOn_of hG hC1 (fun s a j q => o2 s a j (by omega))) hP2 (PreB_put hinj hPre1 hi) (PI_P hPI1 ho2 (Pap_inv hP2)) ((fr2 9 0 3 rfl).trans h3) ((fr2 9 0 4 rfl).trans h4) ((fr2 9 0 7 rfl).trans h7) (fun u hu => ⟨(fr2 45 0 u rfl).trans (h45 u hu).1, (h45 u hu).2⟩) (FillS_of hS1 (o2 9 0 6 (by omega)) (fun j => o2 46 0 j (by omega))) ?_
      · unfold updB
        split
        · omega
        · exact hfu u (by omega)
      · intro gi3 B3 fr3 hC3 hP3 hPre3 hPI3 hS3
        simp only [b_Filling_fillFrom_73, n32_add, ax_psh_none, ax_psh_some, true_and, and_true, and_false, false_and, not_true_eq_false, not_false_eq_true, true_imp_iff, false_imp_iff, imp_self, or_true, true_or, or_false, false_or, and_self, ite_true, ite_false, if_true, if_false]
        refine ih gi3 B3 (Fr_trans fr2 fr3) hC3 hP3 (PreB_down hPre3) hPI3 ?_
        show FillS gi3 (l ++ (catN _ p ++ _)) H
        rw [← List.append_assoc]
        exact hS3
    · intro gi1 B1 fr hC1 hP1 hPre1 hPI1 hS1
      have e3 : gi1 9 0 3 = n32 P := (fr 9 0 3 rfl).trans h3
      rw [b_Filling_fillFrom_44, e3]
      refine ⟨fun z => absurd z (by rw [n32_lt (by omega) (by omega)]; omega), fun _ => ?_⟩
      rw [b_Filling_fillFrom_79]
      exact hq gi1 B1 fr hC1 hP1 hPre1 hPI1 hS1
theorem c_findHoles {d r W T O : Nat} {b h : Nat → Nat} {gi : GI} {g : AG} {Q : Option AV → AH → Prop} (hG : GOK g) (hc' : ThC gi r W T O b) (hh : ∀ c, c < 64 → gi 30 r c = n32 (h c) ∧ h c ≤ 1) (hs : sumN h (W * T) ≤ 6)
    (hq : ∀ gi', (∀ s a j, s ≠ 45 → ¬ (s = 9 ∧ a = 0 ∧ j = 7) → gi' s a j = gi s a j) → gi' 9 0 7 = n32 (hl h (W * T)).length → (∀ i, i < (hl h (W * T)).length → gi' 45 0 i = n32 (hc h (W * T) i)) → Q none (gi', g)) :
    ax_call (d + 2) m_Filling_findHoles [.inr (.inr (some (9, 0))), .inr (.inr (some (2, r)))] (gi, g) Q := by
  have h64 := wt64 hc'.2.2.2.1.2 hc'.2.2.2.2.1.2
  have hlen := hl_len (h := h) (n := W * T) (fun c hc => (hh c (by omega)).2)
  have mono : ∀ i, i ≤ W * T → (hl h i).length ≤ (hl h (W * T)).length ∧ (∀ k, k < (hl h i).length → (hl h (W * T)).getD k 0 = (hl h i).getD k 0) := by
    intro i hi
    refine loop_up (n := W * T) (P := fun i => (hl h i).length ≤ (hl h (W * T)).length ∧ (∀ k, k < (hl h i).length → (hl h (W * T)).getD k 0 = (hl h i).getD k 0)) (fun i hi ih => ?_) ⟨Nat.le_refl _, fun _ _ => rfl⟩ i hi
    have hle : (hl h i).length ≤ (hl h (i + 1)).length := by
      show _ ≤ (if h i = 1 then hl h i ++ [i] else hl h i).length
      split
      · rw [List.length_append]
        omega
      · exact Nat.le_refl _
    exact ⟨by omega, fun k hk => by rw [ih.2 k (by omega), hl_app hk]⟩
  have key := loop_up (n := W * T) (P := fun i => ∀ gi1 : GI, (∀ s a j, s ≠ 45 → ¬ (s = 9 ∧ a = 0 ∧ j = 7) → gi1 s a j = gi s a j) → gi1 9 0 7 = n32 (hl h i).length → (∀ k, k < (hl h i).length → gi1 45 0 k = n32 ((hl h i).getD k 0)) → Runs (d + 1) (m_Filling_findHoles, 7, [some (.inr (.inr (some (9, 0)))), some (.inr (.inr (some (2, r)))), some (.inl (n32 i))], []) (gi1, g) Q) ?_ ?_
  · rw [e_Filling_findHoles, b_Filling_findHoles_0]
    refine key 0 (Nat.zero_le _) _ (fun s a j q1 q2 => by rw [wI_at, if_neg q2]) (by rw [wI_self]; rfl) (fun k hk => absurd hk (Nat.not_lt_zero k))
  · intro i hi ih gi1 f1 f7 f45
    have w0 : gi1 2 r 0 = n32 W := (f1 2 r 0 (by decide) (by omega)).trans hc'.1
    have w1 : gi1 2 r 1 = n32 T := (f1 2 r 1 (by decide) (by omega)).trans hc'.2.1
    have e30 : gi1 30 r i = n32 (h i) := (f1 30 r i (by decide) (by omega)).trans (hh i (by omega)).1
    have hm := mono i (by omega)
    have hm1 := mono (i + 1) (by omega)
    have h1 := (hh i (by omega)).2
    rw [b_Filling_findHoles_7]
    by_cases h6 : (hl h i).length < 6
    · by_cases z : h i = 1
      · have w7 : ∀ v, ax_wI gi1 45 0 (hl h i).length v 9 0 7 = n32 (hl h i).length := fun v => by rw [wI_ne (by decide), f7]
        have el : hl h (i + 1) = hl h i ++ [i] := if_pos z
        simp (disch := omega) only [b_Filling_findHoles_12, b_Filling_findHoles_15, b_Filling_findHoles_24, b_Filling_findHoles_34, b_Filling_findHoles_54, c_Thing_area _ _ _ _ w0 w1, hi, f7, h6, e30, z, w7, G_0_0 hG, G_0_1 hG, G_0_2 hG, G_0_3 hG, G_0_7 hG, G_0_10 hG, G_0_12 hG, G_0_13 hG, G_0_14 hG, G_0_15 hG, G_0_16 hG, G_0_17 hG, G_1_0 hG, G_1_2 hG, G_1_5 hG, G_2_4 hG, G_2_5 hG, G_3_5 hG, G_3_6 hG, G_3_7 hG, G_3_8 hG, G_3_9 hG, G_5_0 hG, G_5_1 hG, G_6_0 hG, G_6_1 hG, G_6_2 hG, G_6_9 hG, G_6_10 hG, G_6_11 hG, G_6_12 hG, G_6_13 hG, G_7_0 hG, G_7_5 hG, G_8_8 hG, G_8_9 hG, G_9_8 hG, G_9_9 hG, G_10_7 hG, G_10_8 hG, G_10_9 hG, G_10_10 hG, G_10_11 hG, G_11_0 hG, G_12_2 hG, G_12_3 hG, G_12_4 hG, G_12_5 hG, G_12_7 hG, G_12_8 hG, G_12_9 hG, G_12_12 hG, G_12_13 hG, G_12_14 hG, G_12_22 hG, G_12_23 hG, G_12_29 hG, G_12_30 hG, G_12_31 hG, G_12_37 hG, G_12_38 hG, G_12_39 hG, G_12_40 hG, G_12_41 hG, G_12_43 hG, G_12_46 hG, G_12_47 hG, G_12_48 hG, G_25 hG, G_26 hG, G_47 hG, G_58 hG, n32_add, n32_mul, n32_lt, n32_le, n32_eq, n32_clamp, n32_inT, n32_div, n32_rem, n32_m1, n32_m1', n32_m1lt, n32_ltm1, n32_10, n32_01, Nat.not_lt_zero, Nat.lt_irrefl, Nat.mul_zero, Nat.zero_mul, Nat.zero_add, Nat.add_zero, Nat.reduceEqDiff, Nat.one_ne_zero, Nat.zero_ne_one, ax_psh_none, ax_psh_some, true_and, and_true, and_false, false_and, not_true_eq_false, not_false_eq_true, true_imp_iff, false_imp_iff, imp_self, or_true, true_or, or_false, false_or, and_self, ite_true, ite_false, if_true, if_false]
        refine ih _ (fun s a j q1 q2 => ?_) ?_ (fun k hk => ?_)
        · rw [wI_at, if_neg q2, wI_ne q1]
          exact f1 s a j q1 q2
        · rw [wI_self, el, List.length_append]
          rfl
        · rw [wI_ne (by decide), wI_at]
          rw [el, List.length_append] at hk
          rw [el, getD_app]
          by_cases q : k = (hl h i).length
          · rw [if_pos ⟨rfl, rfl, q⟩, if_neg (by omega), if_pos q]
          · have hk2 : k < (hl h i).length := by
              have : k < (hl h i).length + 1 := hk
              omega
            rw [if_neg (by omega), if_pos hk2]
            exact f45 k hk2
      · have el : hl h (i + 1) = hl h i := if_neg z
        simp (disch := omega) only [b_Filling_findHoles_12, b_Filling_findHoles_15, b_Filling_findHoles_24, b_Filling_findHoles_54, c_Thing_area _ _ _ _ w0 w1, hi, f7, h6, e30, z, G_0_0 hG, G_0_1 hG, G_0_2 hG, G_0_3 hG, G_0_7 hG, G_0_10 hG, G_0_12 hG, G_0_13 hG, G_0_14 hG, G_0_15 hG, G_0_16 hG, G_0_17 hG, G_1_0 hG, G_1_2 hG, G_1_5 hG, G_2_4 hG, G_2_5 hG, G_3_5 hG, G_3_6 hG, G_3_7 hG, G_3_8 hG, G_3_9 hG, G_5_0 hG, G_5_1 hG, G_6_0 hG, G_6_1 hG, G_6_2 hG, G_6_9 hG, G_6_10 hG, G_6_11 hG, G_6_12 hG, G_6_13 hG, G_7_0 hG, G_7_5 hG, G_8_8 hG, G_8_9 hG, G_9_8 hG, G_9_9 hG, G_10_7 hG, G_10_8 hG, G_10_9 hG, G_10_10 hG, G_10_11 hG, G_11_0 hG, G_12_2 hG, G_12_3 hG, G_12_4 hG, G_12_5 hG, G_12_7 hG, G_12_8 hG, G_12_9 hG, G_12_12 hG, G_12_13 hG, G_12_14 hG, G_12_22 hG, G_12_23 hG, G_12_29 hG, G_12_30 hG, G_12_31 hG, G_12_37 hG, G_12_38 hG, G_12_39 hG, G_12_40 hG, G_12_41 hG, G_12_43 hG, G_12_46 hG, G_12_47 hG, G_12_48 hG, G_25 hG, G_26 hG, G_47 hG, G_58 hG, n32_add, n32_mul, n32_lt, n32_le, n32_eq, n32_clamp, n32_inT, n32_div, n32_rem, n32_m1, n32_m1', n32_m1lt, n32_ltm1, n32_10, n32_01, Nat.not_lt_zero, Nat.lt_irrefl, Nat.mul_zero, Nat.zero_mul, Nat.zero_add, Nat.add_zero, Nat.reduceEqDiff, Nat.one_ne_zero, Nat.zero_ne_one, ax_psh_none, ax_psh_some, true_and, and_true, and_false, false_and, not_true_eq_false, not_false_eq_true, true_imp_iff, false_imp_iff, imp_self, or_true, true_or, or_false, false_or, and_self, ite_true, ite_false, if_true, if_false]
        refine ih gi1 f1 (by rw [el]; exact f7) (by rw [el]; exact f45)
    · have e6 : (hl h i).length = (hl h (W * T)).length := by omega
      simp (disch := omega) only [b_Filling_findHoles_12, b_Filling_findHoles_15, b_Filling_findHoles_60, c_Thing_area _ _ _ _ w0 w1, hi, f7, h6, G_0_0 hG, G_0_1 hG, G_0_2 hG, G_0_3 hG, G_0_7 hG, G_0_10 hG, G_0_12 hG, G_0_13 hG, G_0_14 hG, G_0_15 hG, G_0_16 hG, G_0_17 hG, G_1_0 hG, G_1_2 hG, G_1_5 hG, G_2_4 hG, G_2_5 hG, G_3_5 hG, G_3_6 hG, G_3_7 hG, G_3_8 hG, G_3_9 hG, G_5_0 hG, G_5_1 hG, G_6_0 hG, G_6_1 hG, G_6_2 hG, G_6_9 hG, G_6_10 hG, G_6_11 hG, G_6_12 hG, G_6_13 hG, G_7_0 hG, G_7_5 hG, G_8_8 hG, G_8_9 hG, G_9_8 hG, G_9_9 hG, G_10_7 hG, G_10_8 hG, G_10_9 hG, G_10_10 hG, G_10_11 hG, G_11_0 hG, G_12_2 hG, G_12_3 hG, G_12_4 hG, G_12_5 hG, G_12_7 hG, G_12_8 hG, G_12_9 hG, G_12_12 hG, G_12_13 hG, G_12_14 hG, G_12_22 hG, G_12_23 hG, G_12_29 hG, G_12_30 hG, G_12_31 hG, G_12_37 hG, G_12_38 hG, G_12_39 hG, G_12_40 hG, G_12_41 hG, G_12_43 hG, G_12_46 hG, G_12_47 hG, G_12_48 hG, G_25 hG, G_26 hG, G_47 hG, G_58 hG, n32_add, n32_mul, n32_lt, n32_le, n32_eq, n32_clamp, n32_inT, n32_div, n32_rem, n32_m1, n32_m1', n32_m1lt, n32_ltm1, n32_10, n32_01, Nat.not_lt_zero, Nat.lt_irrefl, Nat.mul_zero, Nat.zero_mul, Nat.zero_add, Nat.add_zero, Nat.reduceEqDiff, Nat.one_ne_zero, Nat.zero_ne_one, ax_psh_none, ax_psh_some, true_and, and_true, and_false, false_and, not_true_eq_false, not_false_eq_true, true_imp_iff, false_imp_iff, imp_self, or_true, true_or, or_false, false_or, and_self, ite_true, ite_false, if_true, if_false]
      refine hq gi1 f1 (by rw [← e6]; exact f7) (fun k hk => ?_)
      rw [f45 k (by omega)]
      unfold hc
      rw [hm.2 k (by omega)]
  · intro gi1 f1 f7 f45
    have w0 : gi1 2 r 0 = n32 W := (f1 2 r 0 (by decide) (by omega)).trans hc'.1
    have w1 : gi1 2 r 1 = n32 T := (f1 2 r 1 (by decide) (by omega)).trans hc'.2.1
    rw [b_Filling_findHoles_7]
    simp (disch := omega) only [b_Filling_findHoles_12, b_Filling_findHoles_60, c_Thing_area _ _ _ _ w0 w1, G_0_0 hG, G_0_1 hG, G_0_2 hG, G_0_3 hG, G_0_7 hG, G_0_10 hG, G_0_12 hG, G_0_13 hG, G_0_14 hG, G_0_15 hG, G_0_16 hG, G_0_17 hG, G_1_0 hG, G_1_2 hG, G_1_5 hG, G_2_4 hG, G_2_5 hG, G_3_5 hG, G_3_6 hG, G_3_7 hG, G_3_8 hG, G_3_9 hG, G_5_0 hG, G_5_1 hG, G_6_0 hG, G_6_1 hG, G_6_2 hG, G_6_9 hG, G_6_10 hG, G_6_11 hG, G_6_12 hG, G_6_13 hG, G_7_0 hG, G_7_5 hG, G_8_8 hG, G_8_9 hG, G_9_8 hG, G_9_9 hG, G_10_7 hG, G_10_8 hG, G_10_9 hG, G_10_10 hG, G_10_11 hG, G_11_0 hG, G_12_2 hG, G_12_3 hG, G_12_4 hG, G_12_5 hG, G_12_7 hG, G_12_8 hG, G_12_9 hG, G_12_12 hG, G_12_13 hG, G_12_14 hG, G_12_22 hG, G_12_23 hG, G_12_29 hG, G_12_30 hG, G_12_31 hG, G_12_37 hG, G_12_38 hG, G_12_39 hG, G_12_40 hG, G_12_41 hG, G_12_43 hG, G_12_46 hG, G_12_47 hG, G_12_48 hG, G_25 hG, G_26 hG, G_47 hG, G_58 hG, n32_add, n32_mul, n32_lt, n32_le, n32_eq, n32_clamp, n32_inT, n32_div, n32_rem, n32_m1, n32_m1', n32_m1lt, n32_ltm1, n32_10, n32_01, Nat.not_lt_zero, Nat.lt_irrefl, Nat.mul_zero, Nat.zero_mul, Nat.zero_add, Nat.add_zero, Nat.reduceEqDiff, Nat.one_ne_zero, Nat.zero_ne_one, ax_psh_none, ax_psh_some, true_and, and_true, and_false, false_and, not_true_eq_false, not_false_eq_true, true_imp_iff, false_imp_iff, imp_self, or_true, true_or, or_false, false_or, and_self, ite_true, ite_false, if_true, if_false]
    exact hq gi1 f1 f7 f45
