/-! quite alike -/
def orb (W T l c : Nat) : Nat := if itk W T l c 1 = c then 1 else if itk W T l c 2 = c then 2 else 4
theorem itk4 {W T l c : Nat} (hW : W ≤ 8) (hT : T ≤ 8) (hl : l < likes W T) (hc : c < W * T) : itk W T l c 4 = c := by
  have lk := likes_36 W T
  have hF := isF_like hl
  by_cases h5 : l = 5
  · subst h5
    have e : W = T := by
      unfold likes at hl
      split at hl
      · assumption
      · omega
    have h1 := tk_57 hW hT e hc
    have h2 := tk_57 hW hT e (tk_lt hW hT (by omega) hF hc)
    show tk W T 5 (tk W T 5 (tk W T 5 (tk W T 5 c))) = c
    rw [h2.2.2.1]
    exact h1.1
  · have h1 := tk_inv hW hT (by omega : l < 5) hF hc
    show tk W T l (tk W T l (tk W T l (tk W T l c))) = c
    rw [h1, h1]
theorem orb_ok {W T l c : Nat} (hW : W ≤ 8) (hT : T ≤ 8) (hl : l < likes W T) (hc : c < W * T) : 1 ≤ orb W T l c ∧ orb W T l c ≤ 4 ∧ itk W T l c (orb W T l c) = c ∧ (∀ j, 0 < j → j < orb W T l c → itk W T l c j ≠ c) ∧ ∀ f : Nat → Nat, (∀ j, f j ≤ 1) → ∃ m, 1 ≤ m ∧ sumN (fun k => f (itk W T l c k)) 4 = m * sumN (fun k => f (itk W T l c k)) (orb W T l c) ∧ (m = 4 ∨ m = 2 ∨ m = 1) ∧ m * orb W T l c = 4 := by
  have h4 := itk4 hW hT hl hc
  unfold orb
  by_cases h1 : itk W T l c 1 = c
  · rw [if_pos h1]
    have e1 : tk W T l c = c := h1
    have e2 : itk W T l c 2 = c := by show tk W T l (itk W T l c 1) = c; rw [h1, e1]
    have e3 : itk W T l c 3 = c := by show tk W T l (itk W T l c 2) = c; rw [e2, e1]
    refine ⟨by omega, by omega, h1, fun j h h' => by omega, fun f _ => ⟨4, by omega, ?_, Or.inl rfl, by omega⟩⟩
    show 0 + f (itk W T l c 0) + f (itk W T l c 1) + f (itk W T l c 2) + f (itk W T l c 3) = 4 * (0 + f (itk W T l c 0))
    rw [h1, e2, e3, show itk W T l c 0 = c from rfl]
    omega
  · rw [if_neg h1]
    by_cases h2 : itk W T l c 2 = c
    · rw [if_pos h2]
      have e3 : itk W T l c 3 = itk W T l c 1 := by show tk W T l (itk W T l c 2) = tk W T l c; rw [h2]
      refine ⟨by omega, by omega, h2, fun j h h' => by rw [show j = 1 by omega]; exact h1, fun f _ => ⟨2, by omega, ?_, Or.inr (Or.inl rfl), by omega⟩⟩
      show 0 + f (itk W T l c 0) + f (itk W T l c 1) + f (itk W T l c 2) + f (itk W T l c 3) = 2 * (0 + f (itk W T l c 0) + f (itk W T l c 1))
      rw [h2, e3, show itk W T l c 0 = c from rfl]
      omega
    · rw [if_neg h2]
      have h3 : itk W T l c 3 ≠ c := fun z => by
        have : itk W T l c 4 = itk W T l c 1 := by show tk W T l (itk W T l c 3) = tk W T l c; rw [z]
        rw [this] at h4
        exact h1 h4
      refine ⟨by omega, by omega, h4, fun j h h' => ?_, fun f _ => ⟨1, by omega, by rw [Nat.one_mul], Or.inr (Or.inr rfl), by omega⟩⟩
      have cs : j = 1 ∨ j = 2 ∨ j = 3 := by omega
      rcases cs with rfl | rfl | rfl
      · exact h1
      · exact h2
      · exact h3
def ringD (W T : Nat) (b : Nat → Nat) (l c p : Nat) : Nat := sumN (fun k => if b (itk W T l c k) = p then 1 else 0) (orb W T l c)
theorem ringD_amx {W T l c : Nat} {b : Nat → Nat} (hW : W ≤ 8) (hT : T ≤ 8) (hl : l < likes W T) (hc : c < W * T) : amx (ringD W T b l c) 9 = amx (ringC W T b l c) 9 := by
  obtain ⟨-, -, -, -, h⟩ := orb_ok hW hT hl hc
  have h1 : 1 ≤ orb W T l c := (orb_ok hW hT hl hc).1
  have : ∃ m, 1 ≤ m ∧ ∀ p, p ≤ 9 → ringC W T b l c p = m * ringD W T b l c p := by
    obtain ⟨m0, hm0, -, -, e0⟩ := h (fun _ => 0) (fun _ => Nat.zero_le _)
    refine ⟨m0, hm0, fun p _ => ?_⟩
    obtain ⟨m, hm, e, -, e2⟩ := h (fun x => if b x = p then 1 else 0) (fun j => by split <;> omega)
    have : m = m0 := Nat.eq_of_mul_eq_mul_right h1 (e2.trans e0.symm)
    subst this
    exact e
  obtain ⟨m, hm, e⟩ := this
  exact (amx_scale hm 9 e).symm
def bestF (W T : Nat) (b : Nat → Nat) (l c : Nat) : Nat := amx (ringC W T b l c) 9
def quiMod (s _j : Nat) : Bool := s == 75 || s == 76
theorem Laid_qui {gi gi' : GI} {t W T : Nat} {b : Nat → Nat} (h : Laid gi t W T b) (hf : Fr quiMod gi gi') : Laid gi' t W T b := by
  obtain ⟨h1, h2, h3, h4, h5, h6, h7⟩ := h
  exact ⟨(hf 12 0 24 rfl).trans h1, (hf 12 0 25 rfl).trans h2, (hf 12 0 26 rfl).trans h3, h4, h5, h6, fun c hc => ⟨(hf 74 0 c rfl).trans (h7 c hc).1, (h7 c hc).2⟩⟩
theorem c_M_quites {d t W T l : Nat} {b : Nat → Nat} {gi : GI} {g : AG} {Q : Option AV → AH → Prop} (hG : GOK g) (h : Laid gi t W T b) (hW1 : 1 ≤ W) (hT1 : 1 ≤ T) (hl : l < likes W T)
    (hq : ∀ gi', Fr quiMod gi gi' → (∀ c, c < W * T → gi' 75 0 c = n32 (bestF W T b l c)) → Q (some (.inl (n32 (sumN (fun c => nq (b c) (bestF W T b l c)) (W * T))))) (gi', g)) :
    ax_call (d + 3) m_M_quites [.inr (.inr (some (12, 0))), .inl (n32 l)] (gi, g) Q := by
  have lk := likes_36 W T
  have hW := h.2.2.2.1
  have hT := h.2.2.2.2.1
  have h64 := wt64 hW hT
  have hF := isF_like hl
  have key := loop_up (n := W * T) (P := fun i => ∀ (gi1 : GI) o4 o5 o6, Fr quiMod gi gi1 → (∀ c, c < i → gi1 75 0 c = n32 (bestF W T b l c)) → Runs (d + 2) (m_M_quites, 4, [some (.inr (.inr (some (12, 0)))), some (.inl (n32 l)), some (.inl (n32 (sumN (fun c => nq (b c) (bestF W T b l c)) i))), some (.inl (n32 i)), o4, o5, o6], []) (gi1, g) Q) ?_ ?_
  · rw [e_M_quites, b_M_quites_0]
    exact key 0 (Nat.zero_le _) gi _ _ _ (Fr_refl _ _) (fun c hc => absurd hc (Nat.not_lt_zero c))
  · intro c hc ih gi1 o4 o5 o6 fr h75
    have hl1 := Laid_qui h fr
    obtain ⟨o1, o4', oc, on, -⟩ := orb_ok hW hT hl hc
    have ile := fun k => itk_lt hW hT hl hc k
    rw [b_M_quites_4]
    simp (disch := omega) only [b_M_quites_17, hl1.2.1, hl1.2.2.1, hc, n32_add, n32_mul, n32_lt, n32_le, n32_eq, n32_clamp, n32_inT, n32_div, n32_rem, n32_m1, n32_m1', n32_m1lt, n32_ltm1, n32_10, n32_01, Nat.not_lt_zero, Nat.lt_irrefl, Nat.mul_zero, Nat.zero_mul, Nat.zero_add, Nat.add_zero, Nat.reduceEqDiff, Nat.one_ne_zero, Nat.zero_ne_one, ax_psh_none, ax_psh_some, true_and, and_true, and_false, false_and, not_true_eq_false, not_false_eq_true, true_imp_iff, false_imp_iff, imp_self, or_true, true_or, or_false, false_or, and_self, ite_true, ite_false, if_true, if_false]
    -- the best part
    have s3 : ∀ gi3 : GI, Fr quiMod gi gi3 → (∀ c', c' < c → gi3 75 0 c' = n32 (bestF W T b l c')) → (∀ p, p < 10 → gi3 76 0 p = n32 (ringD W T b l c p)) → ∀ o4, Runs (d + 2) (m_M_quites, 81, [some (.inr (.inr (some (12, 0)))), some (.inl (n32 l)), some (.inl (n32 (sumN (fun c => nq (b c) (bestF W T b l c)) c))), some (.inl (n32 c)), o4, some (.inl (n32 (amx (ringD W T b l c) 0))), some (.inl (n32 (0 + 1)))], []) (gi3, g) Q := by
      intro gi3 fr3 g75 g76
      refine loop_up (n := 9) (P := fun i => ∀ o4, Runs (d + 2) (m_M_quites, 81, [some (.inr (.inr (some (12, 0)))), some (.inl (n32 l)), some (.inl (n32 (sumN (fun c => nq (b c) (bestF W T b l c)) c))), some (.inl (n32 c)), o4, some (.inl (n32 (amx (ringD W T b l c) i))), some (.inl (n32 (i + 1)))], []) (gi3, g) Q) ?_ ?_ 0 (by omega)
      · intro i hi ih3 o4
        have hle := amx_le (ringD W T b l c) i
        have rle : ∀ p, ringD W T b l c p ≤ 4 := fun p => Nat.le_trans (sumN_le1 (fun k => by split <;> omega) _) o4'
        have e1 := rle (amx (ringD W T b l c) i)
        have e2 := rle (i + 1)
        have hlt : i + 1 < 10 := by omega
        rw [b_M_quites_81]
        by_cases hz : ringD W T b l c (amx (ringD W T b l c) i) < ringD W T b l c (i + 1)
        · have em : amx (ringD W T b l c) (i + 1) = i + 1 := by
            show (if _ then _ else _) = _
            rw [if_pos hz]
          rw [em] at ih3
          simp (disch := omega) only [b_M_quites_88, b_M_quites_105, b_M_quites_109, hlt, G_0_0 hG, G_0_1 hG, G_0_2 hG, G_0_3 hG, G_0_7 hG, G_0_10 hG, G_0_12 hG, G_0_13 hG, G_0_14 hG, G_0_15 hG, G_0_16 hG, G_0_17 hG, G_1_0 hG, G_1_2 hG, G_1_5 hG, G_2_4 hG, G_2_5 hG, G_3_5 hG, G_3_6 hG, G_3_7 hG, G_3_8 hG, G_3_9 hG, G_5_0 hG, G_5_1 hG, G_6_0 hG, G_6_1 hG, G_6_2 hG, G_6_9 hG, G_6_10 hG, G_6_11 hG, G_6_12 hG, G_6_13 hG, G_7_0 hG, G_7_5 hG, G_8_8 hG, G_8_9 hG, G_9_8 hG, G_9_9 hG, G_10_7 hG, G_10_8 hG, G_10_9 hG, G_10_10 hG, G_10_11 hG, G_11_0 hG, G_12_2 hG, G_12_3 hG, G_12_4 hG, G_12_5 hG, G_12_7 hG, G_12_8 hG, G_12_9 hG, G_12_12 hG, G_12_13 hG, G_12_14 hG, G_12_22 hG, G_12_23 hG, G_12_29 hG, G_12_30 hG, G_12_31 hG, G_12_37 hG, G_12_38 hG, G_12_39 hG, G_12_40 hG, G_12_41 hG, G_12_43 hG, G_12_46 hG, G_12_47 hG, G_12_48 hG, G_25 hG, G_26 hG, G_47 hG, G_58 hG, g76 (i + 1) hlt, g76 _ (by omega : amx (ringD W T b l c) i < 10), hz, n32_add, n32_mul, n32_lt, n32_le, n32_eq, n32_clamp, n32_inT, n32_div, n32_rem, n32_m1, n32_m1', n32_m1lt, n32_ltm1, n32_10, n32_01, Nat.not_lt_zero, Nat.lt_irrefl, Nat.mul_zero, Nat.zero_mul, Nat.zero_add, Nat.add_zero, Nat.reduceEqDiff, Nat.one_ne_zero, Nat.zero_ne_one, ax_psh_none, ax_psh_some, true_and, and_true, and_false, false_and, not_true_eq_false, not_false_eq_true, true_imp_iff, false_imp_iff, imp_self, or_true, true_or, or_false, false_or, and_self, ite_true, ite_false, if_true, if_false]
          exact ih3 _
        · have em : amx (ringD W T b l c) (i + 1) = amx (ringD W T b l c) i := by
            show (if _ then _ else _) = _
            rw [if_neg hz]
          rw [em] at ih3
          simp (disch := omega) only [b_M_quites_88, b_M_quites_109, hlt, G_0_0 hG, G_0_1 hG, G_0_2 hG, G_0_3 hG, G_0_7 hG, G_0_10 hG, G_0_12 hG, G_0_13 hG, G_0_14 hG, G_0_15 hG, G_0_16 hG, G_0_17 hG, G_1_0 hG, G_1_2 hG, G_1_5 hG, G_2_4 hG, G_2_5 hG, G_3_5 hG, G_3_6 hG, G_3_7 hG, G_3_8 hG, G_3_9 hG, G_5_0 hG, G_5_1 hG, G_6_0 hG, G_6_1 hG, G_6_2 hG, G_6_9 hG, G_6_10 hG, G_6_11 hG, G_6_12 hG, G_6_13 hG, G_7_0 hG, G_7_5 hG, G_8_8 hG, G_8_9 hG, G_9_8 hG, G_9_9 hG, G_10_7 hG, G_10_8 hG, G_10_9 hG, G_10_10 hG, G_10_11 hG, G_11_0 hG, G_12_2 hG, G_12_3 hG, G_12_4 hG, G_12_5 hG, G_12_7 hG, G_12_8 hG, G_12_9 hG, G_12_12 hG, G_12_13 hG, G_12_14 hG, G_12_22 hG, G_12_23 hG, G_12_29 hG, G_12_30 hG, G_12_31 hG, G_12_37 hG, G_12_38 hG, G_12_39 hG, G_12_40 hG, G_12_41 hG, G_12_43 hG, G_12_46 hG, G_12_47 hG, G_12_48 hG, G_25 hG, G_26 hG, G_47 hG, G_58 hG, g76 (i + 1) hlt, g76 _ (by omega : amx (ringD W T b l c) i < 10), hz, n32_add, n32_mul, n32_lt, n32_le, n32_eq, n32_clamp, n32_inT, n32_div, n32_rem, n32_m1, n32_m1', n32_m1lt, n32_ltm1, n32_10, n32_01, Nat.not_lt_zero, Nat.lt_irrefl, Nat.mul_zero, Nat.zero_mul, Nat.zero_add, Nat.add_zero, Nat.reduceEqDiff, Nat.one_ne_zero, Nat.zero_ne_one, ax_psh_none, ax_psh_some, true_and, and_true, and_false, false_and, not_true_eq_false, not_false_eq_true, true_imp_iff, false_imp_iff, imp_self, or_true, true_or, or_false, false_or, and_self, ite_true, ite_false, if_true, if_false]
          exact ih3 _
      · intro o4
        rw [b_M_quites_81]
        rw [ringD_amx hW hT hl hc]
        have hble : bestF W T b l c ≤ 9 := amx_le _ _
        have a74 : ∀ x y, ax_wI gi3 75 0 x y 74 0 c = n32 (b c) := fun x y => by rw [wI_at, if_neg (by omega), fr3 74 0 c rfl]; exact (h.2.2.2.2.2.2 c hc).1
        have bb := (h.2.2.2.2.2.2 c hc).2
        have fin : ∀ o4 o5 o6, Runs (d + 2) (m_M_quites, 4, [some (.inr (.inr (some (12, 0)))), some (.inl (n32 l)), some (.inl (n32 (sumN (fun c => nq (b c) (bestF W T b l c)) (c + 1)))), some (.inl (n32 (c + 1))), o4, o5, o6], []) (ax_wI gi3 75 0 c (n32 (bestF W T b l c)), g) Q := by
          intro o4 o5 o6
          refine ih _ _ _ _ (Fr_wI fr3 rfl) ?_
          intro c' hc'
          rw [wI_at]
          by_cases z : c' = c
          · rw [if_pos ⟨rfl, rfl, z⟩, z]
          · rw [if_neg (by omega)]
            exact g75 c' (by omega)
        rw [show amx (ringC W T b l c) 9 = bestF W T b l c from rfl]
        by_cases z : b c = bestF W T b l c
        · have e : n32 (sumN (fun c => nq (b c) (bestF W T b l c)) (c + 1)) = n32 (sumN (fun c => nq (b c) (bestF W T b l c)) c) := by
            rw [sumN_succ, nq, if_pos z, Nat.add_zero]
          rw [e] at fin
          simp (disch := omega) only [b_M_quites_115, b_M_quites_135, b_M_quites_140, G_0_0 hG, G_0_1 hG, G_0_2 hG, G_0_3 hG, G_0_7 hG, G_0_10 hG, G_0_12 hG, G_0_13 hG, G_0_14 hG, G_0_15 hG, G_0_16 hG, G_0_17 hG, G_1_0 hG, G_1_2 hG, G_1_5 hG, G_2_4 hG, G_2_5 hG, G_3_5 hG, G_3_6 hG, G_3_7 hG, G_3_8 hG, G_3_9 hG, G_5_0 hG, G_5_1 hG, G_6_0 hG, G_6_1 hG, G_6_2 hG, G_6_9 hG, G_6_10 hG, G_6_11 hG, G_6_12 hG, G_6_13 hG, G_7_0 hG, G_7_5 hG, G_8_8 hG, G_8_9 hG, G_9_8 hG, G_9_9 hG, G_10_7 hG, G_10_8 hG, G_10_9 hG, G_10_10 hG, G_10_11 hG, G_11_0 hG, G_12_2 hG, G_12_3 hG, G_12_4 hG, G_12_5 hG, G_12_7 hG, G_12_8 hG, G_12_9 hG, G_12_12 hG, G_12_13 hG, G_12_14 hG, G_12_22 hG, G_12_23 hG, G_12_29 hG, G_12_30 hG, G_12_31 hG, G_12_37 hG, G_12_38 hG, G_12_39 hG, G_12_40 hG, G_12_41 hG, G_12_43 hG, G_12_46 hG, G_12_47 hG, G_12_48 hG, G_25 hG, G_26 hG, G_47 hG, G_58 hG, a74, z, n32_add, n32_mul, n32_lt, n32_le, n32_eq, n32_clamp, n32_inT, n32_div, n32_rem, n32_m1, n32_m1', n32_m1lt, n32_ltm1, n32_10, n32_01, Nat.not_lt_zero, Nat.lt_irrefl, Nat.mul_zero, Nat.zero_mul, Nat.zero_add, Nat.add_zero, Nat.reduceEqDiff, Nat.one_ne_zero, Nat.zero_ne_one, ax_psh_none, ax_psh_some, true_and, and_true, and_false, false_and, not_true_eq_false, not_false_eq_true, true_imp_iff, false_imp_iff, imp_self, or_true, true_or, or_false, false_or, and_self, ite_true, ite_false, if_true, if_false]
          exact fin _ _ _
        · have e : n32 (sumN (fun c => nq (b c) (bestF W T b l c)) (c + 1)) = n32 (sumN (fun c => nq (b c) (bestF W T b l c)) c + 1) := by
            rw [sumN_succ, nq, if_neg z]
          rw [e] at fin
          simp (disch := omega) only [b_M_quites_115, b_M_quites_139, b_M_quites_140, G_0_0 hG, G_0_1 hG, G_0_2 hG, G_0_3 hG, G_0_7 hG, G_0_10 hG, G_0_12 hG, G_0_13 hG, G_0_14 hG, G_0_15 hG, G_0_16 hG, G_0_17 hG, G_1_0 hG, G_1_2 hG, G_1_5 hG, G_2_4 hG, G_2_5 hG, G_3_5 hG, G_3_6 hG, G_3_7 hG, G_3_8 hG, G_3_9 hG, G_5_0 hG, G_5_1 hG, G_6_0 hG, G_6_1 hG, G_6_2 hG, G_6_9 hG, G_6_10 hG, G_6_11 hG, G_6_12 hG, G_6_13 hG, G_7_0 hG, G_7_5 hG, G_8_8 hG, G_8_9 hG, G_9_8 hG, G_9_9 hG, G_10_7 hG, G_10_8 hG, G_10_9 hG, G_10_10 hG, G_10_11 hG, G_11_0 hG, G_12_2 hG, G_12_3 hG, G_12_4 hG, G_12_5 hG, G_12_7 hG, G_12_8 hG, G_12_9 hG, G_12_12 hG, G_12_13 hG, G_12_14 hG, G_12_22 hG, G_12_23 hG, G_12_29 hG, G_12_30 hG, G_12_31 hG, G_12_37 hG, G_12_38 hG, G_12_39 hG, G_12_40 hG, G_12_41 hG, G_12_43 hG, G_12_46 hG, G_12_47 hG, G_12_48 hG, G_25 hG, G_26 hG, G_47 hG, G_58 hG, a74, z, n32_add, n32_mul, n32_lt, n32_le, n32_eq, n32_clamp, n32_inT, n32_div, n32_rem, n32_m1, n32_m1', n32_m1lt, n32_ltm1, n32_10, n32_01, Nat.not_lt_zero, Nat.lt_irrefl, Nat.mul_zero, Nat.zero_mul, Nat.zero_add, Nat.add_zero, Nat.reduceEqDiff, Nat.one_ne_zero, Nat.zero_ne_one, ax_psh_none, ax_psh_some, true_and, and_true, and_false, false_and, not_true_eq_false, not_false_eq_true, true_imp_iff, false_imp_iff, imp_self, or_true, true_or, or_false, false_or, and_self, ite_true, ite_false, if_true, if_false]
          exact fin _ _ _
    -- around
    have s2 : ∀ gi2 : GI, Fr quiMod gi gi2 → (∀ c', c' < c → gi2 75 0 c' = n32 (bestF W T b l c')) → (∀ p, p < 10 → gi2 76 0 p = n32 0) → ∀ o5 o6, Runs (d + 2) (m_M_quites, 44, [some (.inr (.inr (some (12, 0)))), some (.inl (n32 l)), some (.inl (n32 (sumN (fun c => nq (b c) (bestF W T b l c)) c))), some (.inl (n32 c)), some (.inl (n32 (itk W T l c 0))), o5, o6], []) (gi2, g) Q := by
      intro gi2 fr2 g75 g76
      have stp : ∀ i, i < orb W T l c → ∀ gi3 : GI, Fr quiMod gi gi3 → (∀ c', c' < c → gi3 75 0 c' = n32 (bestF W T b l c')) → (∀ p, p < 10 → gi3 76 0 p = n32 (sumN (fun k => if b (itk W T l c k) = p then 1 else 0) i)) → ∀ o5 o6, (∀ gi4 : GI, Fr quiMod gi gi4 → (∀ c', c' < c → gi4 75 0 c' = n32 (bestF W T b l c')) → (∀ p, p < 10 → gi4 76 0 p = n32 (sumN (fun k => if b (itk W T l c k) = p then 1 else 0) (i + 1))) → Runs (d + 2) (m_M_quites, 67, [some (.inr (.inr (some (12, 0)))), some (.inl (n32 l)), some (.inl (n32 (sumN (fun c => nq (b c) (bestF W T b l c)) c))), some (.inl (n32 c)), some (.inl (n32 (itk W T l c i))), o5, o6], [.inl (n32 (itk W T l c (i + 1)))]) (gi4, g) Q) → Runs (d + 2) (m_M_quites, 44, [some (.inr (.inr (some (12, 0)))), some (.inl (n32 l)), some (.inl (n32 (sumN (fun c => nq (b c) (bestF W T b l c)) c))), some (.inl (n32 c)), some (.inl (n32 (itk W T l c i))), o5, o6], []) (gi3, g) Q := by
        intro i hi gi3 fr3 q75 q76 o5 o6 nx
        have hit := ile i
        have a74 : gi3 74 0 (itk W T l c i) = n32 (b (itk W T l c i)) := (fr3 74 0 _ rfl).trans (h.2.2.2.2.2.2 _ hit).1
        have bb := (h.2.2.2.2.2.2 _ hit).2
        have w25 : ∀ x y, ax_wI gi3 76 0 x y 12 0 25 = n32 W := fun x y => by rw [wI_at, if_neg (by omega), fr3 12 0 25 rfl]; exact h.2.1
        have w26 : ∀ x y, ax_wI gi3 76 0 x y 12 0 26 = n32 T := fun x y => by rw [wI_at, if_neg (by omega), fr3 12 0 26 rfl]; exact h.2.2.1
        rw [b_M_quites_44]
        simp (disch := omega) only [G_0_0 hG, G_0_1 hG, G_0_2 hG, G_0_3 hG, G_0_7 hG, G_0_10 hG, G_0_12 hG, G_0_13 hG, G_0_14 hG, G_0_15 hG, G_0_16 hG, G_0_17 hG, G_1_0 hG, G_1_2 hG, G_1_5 hG, G_2_4 hG, G_2_5 hG, G_3_5 hG, G_3_6 hG, G_3_7 hG, G_3_8 hG, G_3_9 hG, G_5_0 hG, G_5_1 hG, G_6_0 hG, G_6_1 hG, G_6_2 hG, G_6_9 hG, G_6_10 hG, G_6_11 hG, G_6_12 hG, G_6_13 hG, G_7_0 hG, G_7_5 hG, G_8_8 hG, G_8_9 hG, G_9_8 hG, G_9_9 hG, G_10_7 hG, G_10_8 hG, G_10_9 hG, G_10_10 hG, G_10_11 hG, G_11_0 hG, G_12_2 hG, G_12_3 hG, G_12_4 hG, G_12_5 hG, G_12_7 hG, G_12_8 hG, G_12_9 hG, G_12_12 hG, G_12_13 hG, G_12_14 hG, G_12_22 hG, G_12_23 hG, G_12_29 hG, G_12_30 hG, G_12_31 hG, G_12_37 hG, G_12_38 hG, G_12_39 hG, G_12_40 hG, G_12_41 hG, G_12_43 hG, G_12_46 hG, G_12_47 hG, G_12_48 hG, G_25 hG, G_26 hG, G_47 hG, G_58 hG, a74, c_M_takenTo _ hG (w25 _ _) (w26 _ _) ⟨hW1, hW⟩ ⟨hT1, hT⟩ (by omega : l < 8) hF hit, q76 _ bb, n32_add, n32_mul, n32_lt, n32_le, n32_eq, n32_clamp, n32_inT, n32_div, n32_rem, n32_m1, n32_m1', n32_m1lt, n32_ltm1, n32_10, n32_01, Nat.not_lt_zero, Nat.lt_irrefl, Nat.mul_zero, Nat.zero_mul, Nat.zero_add, Nat.add_zero, Nat.reduceEqDiff, Nat.one_ne_zero, Nat.zero_ne_one, ax_psh_none, ax_psh_some, true_and, and_true, and_false, false_and, not_true_eq_false, not_false_eq_true, true_imp_iff, false_imp_iff, imp_self, or_true, true_or, or_false, false_or, and_self, ite_true, ite_false, if_true, if_false]
        refine nx _ (Fr_wI fr3 rfl) (fun c' hc' => ?_) (fun p hp => ?_)
        · rw [wI_at, if_neg (by omega)]
          exact q75 c' hc'
        · rw [wI_at, sumN_succ]
          by_cases z : p = b (itk W T l c i)
          · rw [if_pos ⟨rfl, rfl, z⟩, if_pos z.symm, z]
          · rw [if_neg (by omega), if_neg (Ne.symm z), q76 p hp]
            rfl
      have lp := loop_up (n := orb W T l c - 1) (P := fun i => ∀ gi3 : GI, Fr quiMod gi gi3 → (∀ c', c' < c → gi3 75 0 c' = n32 (bestF W T b l c')) → (∀ p, p < 10 → gi3 76 0 p = n32 (sumN (fun k => if b (itk W T l c k) = p then 1 else 0) i)) → ∀ o5 o6, Runs (d + 2) (m_M_quites, 44, [some (.inr (.inr (some (12, 0)))), some (.inl (n32 l)), some (.inl (n32 (sumN (fun c => nq (b c) (bestF W T b l c)) c))), some (.inl (n32 c)), some (.inl (n32 (itk W T l c i))), o5, o6], []) (gi3, g) Q) ?_ ?_
      · exact lp 0 (Nat.zero_le _) gi2 fr2 g75 g76
      · intro i hi ihl gi3 fr3 q75 q76 o5 o6
        refine stp i (by omega) gi3 fr3 q75 q76 o5 o6 ?_
        intro gi4 fr4 r75 r76
        have hne := on (i + 1) (by omega) (by omega)
        have := ile (i + 1)
        rw [b_M_quites_67]
        simp (disch := omega) only [hne, n32_add, n32_mul, n32_lt, n32_le, n32_eq, n32_clamp, n32_inT, n32_div, n32_rem, n32_m1, n32_m1', n32_m1lt, n32_ltm1, n32_10, n32_01, Nat.not_lt_zero, Nat.lt_irrefl, Nat.mul_zero, Nat.zero_mul, Nat.zero_add, Nat.add_zero, Nat.reduceEqDiff, Nat.one_ne_zero, Nat.zero_ne_one, ax_psh_none, ax_psh_some, true_and, and_true, and_false, false_and, not_true_eq_false, not_false_eq_true, true_imp_iff, false_imp_iff, imp_self, or_true, true_or, or_false, false_or, and_self, ite_true, ite_false, if_true, if_false]
        exact ihl gi4 fr4 r75 r76 _ _
      · intro gi3 fr3 q75 q76 o5 o6
        refine stp _ (by omega) gi3 fr3 q75 q76 o5 o6 ?_
        intro gi4 fr4 r75 r76
        have e : orb W T l c - 1 + 1 = orb W T l c := by omega
        rw [e] at r76 ⊢
        rw [oc, b_M_quites_67]
        simp (disch := omega) only [b_M_quites_75, n32_add, n32_mul, n32_lt, n32_le, n32_eq, n32_clamp, n32_inT, n32_div, n32_rem, n32_m1, n32_m1', n32_m1lt, n32_ltm1, n32_10, n32_01, Nat.not_lt_zero, Nat.lt_irrefl, Nat.mul_zero, Nat.zero_mul, Nat.zero_add, Nat.add_zero, Nat.reduceEqDiff, Nat.one_ne_zero, Nat.zero_ne_one, ax_psh_none, ax_psh_some, true_and, and_true, and_false, false_and, not_true_eq_false, not_false_eq_true, true_imp_iff, false_imp_iff, imp_self, or_true, true_or, or_false, false_or, and_self, ite_true, ite_false, if_true, if_false]
        exact s3 gi4 fr4 r75 r76 _
    -- all zero
    have s1 := loop_up (n := 10) (P := fun i => ∀ (gi2 : GI), Fr quiMod gi gi2 → (∀ c', c' < c → gi2 75 0 c' = n32 (bestF W T b l c')) → (∀ p, p < i → gi2 76 0 p = n32 0) → Runs (d + 2) (m_M_quites, 20, [some (.inr (.inr (some (12, 0)))), some (.inl (n32 l)), some (.inl (n32 (sumN (fun c => nq (b c) (bestF W T b l c)) c))), some (.inl (n32 c)), some (.inl (n32 i)), o5, o6], []) (gi2, g) Q) ?_ ?_
    · exact s1 0 (by omega) gi1 fr h75 (fun p hp => absurd hp (Nat.not_lt_zero p))
    · intro i hi ih2 gi2 fr2 g75 g76
      rw [b_M_quites_20]
      simp (disch := omega) only [b_M_quites_27, hi, G_0_0 hG, G_0_1 hG, G_0_2 hG, G_0_3 hG, G_0_7 hG, G_0_10 hG, G_0_12 hG, G_0_13 hG, G_0_14 hG, G_0_15 hG, G_0_16 hG, G_0_17 hG, G_1_0 hG, G_1_2 hG, G_1_5 hG, G_2_4 hG, G_2_5 hG, G_3_5 hG, G_3_6 hG, G_3_7 hG, G_3_8 hG, G_3_9 hG, G_5_0 hG, G_5_1 hG, G_6_0 hG, G_6_1 hG, G_6_2 hG, G_6_9 hG, G_6_10 hG, G_6_11 hG, G_6_12 hG, G_6_13 hG, G_7_0 hG, G_7_5 hG, G_8_8 hG, G_8_9 hG, G_9_8 hG, G_9_9 hG, G_10_7 hG, G_10_8 hG, G_10_9 hG, G_10_10 hG, G_10_11 hG, G_11_0 hG, G_12_2 hG, G_12_3 hG, G_12_4 hG, G_12_5 hG, G_12_7 hG, G_12_8 hG, G_12_9 hG, G_12_12 hG, G_12_13 hG, G_12_14 hG, G_12_22 hG, G_12_23 hG, G_12_29 hG, G_12_30 hG, G_12_31 hG, G_12_37 hG, G_12_38 hG, G_12_39 hG, G_12_40 hG, G_12_41 hG, G_12_43 hG, G_12_46 hG, G_12_47 hG, G_12_48 hG, G_25 hG, G_26 hG, G_47 hG, G_58 hG, n32_add, n32_mul, n32_lt, n32_le, n32_eq, n32_clamp, n32_inT, n32_div, n32_rem, n32_m1, n32_m1', n32_m1lt, n32_ltm1, n32_10, n32_01, Nat.not_lt_zero, Nat.lt_irrefl, Nat.mul_zero, Nat.zero_mul, Nat.zero_add, Nat.add_zero, Nat.reduceEqDiff, Nat.one_ne_zero, Nat.zero_ne_one, ax_psh_none, ax_psh_some, true_and, and_true, and_false, false_and, not_true_eq_false, not_false_eq_true, true_imp_iff, false_imp_iff, imp_self, or_true, true_or, or_false, false_or, and_self, ite_true, ite_false, if_true, if_false]
      refine ih2 _ (Fr_wI fr2 rfl) (fun c' hc' => ?_) (fun p hp => ?_)
      · rw [wI_at, if_neg (by omega)]
        exact g75 c' hc'
      · rw [wI_at]
        by_cases z : p = i
        · rw [if_pos ⟨rfl, rfl, z⟩]
        · rw [if_neg (by omega)]
          exact g76 p (by omega)
    · intro gi2 fr2 g75 g76
      rw [b_M_quites_20]
      simp (disch := omega) only [b_M_quites_41, n32_add, n32_mul, n32_lt, n32_le, n32_eq, n32_clamp, n32_inT, n32_div, n32_rem, n32_m1, n32_m1', n32_m1lt, n32_ltm1, n32_10, n32_01, Nat.not_lt_zero, Nat.lt_irrefl, Nat.mul_zero, Nat.zero_mul, Nat.zero_add, Nat.add_zero, Nat.reduceEqDiff, Nat.one_ne_zero, Nat.zero_ne_one, ax_psh_none, ax_psh_some, true_and, and_true, and_false, false_and, not_true_eq_false, not_false_eq_true, true_imp_iff, false_imp_iff, imp_self, or_true, true_or, or_false, false_or, and_self, ite_true, ite_false, if_true, if_false]
      exact s2 gi2 fr2 g75 g76 _ _
  · intro gi1 o4 o5 o6 fr h75
    have hl1 := Laid_qui h fr
    rw [b_M_quites_4]
    simp (disch := omega) only [b_M_quites_148, hl1.2.1, hl1.2.2.1, n32_add, n32_mul, n32_lt, n32_le, n32_eq, n32_clamp, n32_inT, n32_div, n32_rem, n32_m1, n32_m1', n32_m1lt, n32_ltm1, n32_10, n32_01, Nat.not_lt_zero, Nat.lt_irrefl, Nat.mul_zero, Nat.zero_mul, Nat.zero_add, Nat.add_zero, Nat.reduceEqDiff, Nat.one_ne_zero, Nat.zero_ne_one, ax_psh_none, ax_psh_some, true_and, and_true, and_false, false_and, not_true_eq_false, not_false_eq_true, true_imp_iff, false_imp_iff, imp_self, or_true, true_or, or_false, false_or, and_self, ite_true, ite_false, if_true, if_false]
    exact hq gi1 fr h75
theorem qMod_qui {gi gi' : GI} (h : Fr quiMod gi gi') : Fr qMod gi gi' := fun s a j q => h s a j (by
  unfold quiMod
  cases hz : (s == 75 || s == 76) with
  | false => rfl
  | true =>
    exfalso
    simp only [Bool.or_eq_true, beq_iff_eq] at hz
    rcases hz with rfl | rfl
    · exact absurd q (by simp [qMod])
    · exact absurd q (by simp [qMod]))
theorem PI_qui {gi gi' : GI} (h : ∀ t, t < 6 → PaperInv gi t) (hf : Fr quiMod gi gi') : ∀ t, t < 6 → PaperInv gi' t := fun t ht => PaperInv_of (h t ht) (fun j => hf 3 t j rfl) (fun a j => hf 59 a j rfl)
theorem St_qui {gi gi' : GI} {s : Nat} (h : Stamps gi s) (hf : Fr quiMod gi gi') : Stamps gi' s := Stamps_of h (hf 7 0 4 rfl) (fun j => hf 39 0 j rfl)
theorem Pap_57 {gi gi' : GI} {t W T O : Nat} {b : Nat → Nat} (h : Pap gi t W T O b) (ho : OnlyI gi gi' 57 t) : Pap gi' t W T O b := by
  obtain ⟨⟨p0, p1, p4, pW, pT, pw⟩, h2, h3, h54, hb, h55, h56⟩ := h
  exact ⟨⟨(ho 3 t 0 (by omega)).trans p0, (ho 3 t 1 (by omega)).trans p1, (ho 3 t 4 (by omega)).trans p4, pW, pT, fun f hf c hc => (ho 59 _ c (by omega)).trans (pw f hf c hc)⟩, (ho 3 t 2 (by omega)).trans h2, (ho 3 t 3 (by omega)).trans h3, fun c hc => (ho 54 t c (by omega)).trans (h54 c hc), hb, fun l hl => (ho 55 t l (by omega)).trans (h55 l hl), fun p hp => (ho 56 t p (by omega)).trans (h56 p hp)⟩
theorem OnlyP_57 {gi gi' : GI} {t : Nat} (ho : OnlyI gi gi' 57 t) : OnlyP t gi gi' := fun s a j q1 q2 q3 => ho s a j (by omega)
/-- the reference's quite, where thing and likeness are there -/
theorem c_M_quite {d t nt m l : Nat} {gi : GI} {g : AG} {Ls : Nat → List PC} {K : Nat → Int32} {Q : Option AV → AH → Prop} (hB : BK gi g Ls nt m K) (ht : t < nt) (hl : l < likes (Wk K t) (Tk K t))
    (hq : ∀ gi' gi'', Fr layMod gi gi' → Fr quiMod gi' gi'' → (∀ c, c < Wk K t * Tk K t → gi'' 75 0 c = n32 (bestF (Wk K t) (Tk K t) (bk K t) l c)) → Q (some (.inl (n32 (sumN (fun c => nq (bk K t c) (bestF (Wk K t) (Tk K t) (bk K t) l c)) (Wk K t * Tk K t))))) (gi'', g)) :
    ax_call (d + 4) m_M_quite [.inr (.inr (some (12, 0))), .inl (n32 t), .inl (n32 l)] (gi, g) Q := by
  have hv := thing_b hB ht
  have hG := hB.2.1
  have n6 := hB.2.2.1.1
  have lk := likes_36 (Wk K t) (Tk K t)
  have k1 : gi 64 0 796 = n32 nt := e796_q (gi' := gi) (g' := g) hB
  rw [e_M_quite, b_M_quite_0]
  simp (disch := omega) only [b_M_quite_5, b_M_quite_10, c_M_isThing _ _ _ _ hG, k1, win_sT ht (by omega), n32_add, n32_mul, n32_lt, n32_le, n32_eq, n32_clamp, n32_inT, n32_div, n32_rem, n32_m1, n32_m1', n32_m1lt, n32_ltm1, n32_10, n32_01, Nat.not_lt_zero, Nat.lt_irrefl, Nat.mul_zero, Nat.zero_mul, Nat.zero_add, Nat.add_zero, Nat.reduceEqDiff, Nat.one_ne_zero, Nat.zero_ne_one, ax_psh_none, ax_psh_some, true_and, and_true, and_false, false_and, not_true_eq_false, not_false_eq_true, true_imp_iff, false_imp_iff, imp_self, or_true, true_or, or_false, false_or, and_self, ite_true, ite_false, if_true, if_false]
  refine c_M_lays (d := d + 1) hG (by omega) hv.2.1 ?_
  intro gi2 fr2 hl2 h27 h28
  simp (disch := omega) only [b_M_quite_15, b_M_quite_20, b_M_quite_23, c_M_isLike _ _ _ _ hl2.2.1 hl2.2.2.1 hl2.2.2.2.1 hl2.2.2.2.2.1, win_sT hl (by omega), n32_add, n32_mul, n32_lt, n32_le, n32_eq, n32_clamp, n32_inT, n32_div, n32_rem, n32_m1, n32_m1', n32_m1lt, n32_ltm1, n32_10, n32_01, Nat.not_lt_zero, Nat.lt_irrefl, Nat.mul_zero, Nat.zero_mul, Nat.zero_add, Nat.add_zero, Nat.reduceEqDiff, Nat.one_ne_zero, Nat.zero_ne_one, ax_psh_none, ax_psh_some, true_and, and_true, and_false, false_and, not_true_eq_false, not_false_eq_true, true_imp_iff, false_imp_iff, imp_self, or_true, true_or, or_false, false_or, and_self, ite_true, ite_false, if_true, if_false]
  refine c_M_quites (d := d) hG hl2 hv.1.2.2.2.1.1 hv.1.2.2.2.2.1.1 hl ?_
  intro gi3 fr3 h75
  simp only [b_M_quite_28, b_M_quite_32, ax_psh_none, ax_psh_some, true_and, and_true, and_false, false_and, not_true_eq_false, not_false_eq_true, true_imp_iff, false_imp_iff, imp_self, or_true, true_or, or_false, false_or, and_self, ite_true, ite_false, if_true, if_false]
  exact hq gi2 gi3 fr2 fr3 h75
theorem c_M_quite_l {d t nt m : Nat} {y : Int32} {gi : GI} {g : AG} {Ls : Nat → List PC} {K : Nat → Int32} {Q : Option AV → AH → Prop} (hB : BK gi g Ls nt m K) (ht : t < nt) (hl : win y (n32 0) (n32 (likes (Wk K t) (Tk K t)) - n32 1) = n32 0)
    (hq : ∀ gi', Fr layMod gi gi' → Q (some (.inl (-1))) (gi', g)) :
    ax_call (d + 4) m_M_quite [.inr (.inr (some (12, 0))), .inl (n32 t), .inl y] (gi, g) Q := by
  have hv := thing_b hB ht
  have hG := hB.2.1
  have n6 := hB.2.2.1.1
  have k1 : gi 64 0 796 = n32 nt := e796_q (gi' := gi) (g' := g) hB
  rw [e_M_quite, b_M_quite_0]
  simp (disch := omega) only [b_M_quite_5, b_M_quite_10, c_M_isThing _ _ _ _ hG, k1, win_sT ht (by omega), n32_add, n32_mul, n32_lt, n32_le, n32_eq, n32_clamp, n32_inT, n32_div, n32_rem, n32_m1, n32_m1', n32_m1lt, n32_ltm1, n32_10, n32_01, Nat.not_lt_zero, Nat.lt_irrefl, Nat.mul_zero, Nat.zero_mul, Nat.zero_add, Nat.add_zero, Nat.reduceEqDiff, Nat.one_ne_zero, Nat.zero_ne_one, ax_psh_none, ax_psh_some, true_and, and_true, and_false, false_and, not_true_eq_false, not_false_eq_true, true_imp_iff, false_imp_iff, imp_self, or_true, true_or, or_false, false_or, and_self, ite_true, ite_false, if_true, if_false]
  refine c_M_lays (d := d + 1) hG (by omega) hv.2.1 ?_
  intro gi2 fr2 hl2 h27 h28
  simp (disch := omega) only [b_M_quite_15, b_M_quite_20, b_M_quite_31, b_M_quite_32, c_M_isLike _ _ _ _ hl2.2.1 hl2.2.2.1 hl2.2.2.2.1 hl2.2.2.2.2.1, hl, n32_add, n32_mul, n32_lt, n32_le, n32_eq, n32_clamp, n32_inT, n32_div, n32_rem, n32_m1, n32_m1', n32_m1lt, n32_ltm1, n32_10, n32_01, Nat.not_lt_zero, Nat.lt_irrefl, Nat.mul_zero, Nat.zero_mul, Nat.zero_add, Nat.add_zero, Nat.reduceEqDiff, Nat.one_ne_zero, Nat.zero_ne_one, ax_psh_none, ax_psh_some, true_and, and_true, and_false, false_and, not_true_eq_false, not_false_eq_true, true_imp_iff, false_imp_iff, imp_self, or_true, true_or, or_false, false_or, and_self, ite_true, ite_false, if_true, if_false]
  exact hq gi2 fr2
theorem c_M_quite_n (d : Nat) {gi : GI} {g : AG} {Q : Option AV → AH → Prop} (hG : GOK g) {nt : Nat} {x y : Int32} (k1 : gi 64 0 796 = n32 nt) (hw : win x (n32 0) (n32 nt - n32 1) = n32 0) : ax_call (d + 4) m_M_quite [.inr (.inr (some (12, 0))), .inl x, .inl y] (gi, g) Q = Q (some (.inl (-1))) (gi, g) := by
  simp (disch := omega) only [e_M_quite, b_M_quite_0, b_M_quite_5, b_M_quite_8, c_M_isThing _ _ _ _ hG, k1, hw, n32_add, n32_mul, n32_lt, n32_le, n32_eq, n32_clamp, n32_inT, n32_div, n32_rem, n32_m1, n32_m1', n32_m1lt, n32_ltm1, n32_10, n32_01, Nat.not_lt_zero, Nat.lt_irrefl, Nat.mul_zero, Nat.zero_mul, Nat.zero_add, Nat.add_zero, Nat.reduceEqDiff, Nat.one_ne_zero, Nat.zero_ne_one, ax_psh_none, ax_psh_some, true_and, and_true, and_false, false_and, not_true_eq_false, not_false_eq_true, true_imp_iff, false_imp_iff, imp_self, or_true, true_or, or_false, false_or, and_self, ite_true, ite_false, if_true, if_false]
theorem op_quite (x y : Int32) : Op m_S_quite m_M_quite [.inl x, .inl y] := by
  intro D n gi g Ls Q hD hn hC hQ
  obtain ⟨d, rfl⟩ : ∃ d2, D = d2 + 20 := ⟨D - 20, by omega⟩
  obtain ⟨nt, m, s, hB, hG, b1, n6, hTh, hPI, hs2, hs, k796⟩ := ask_of hC
  rcases win_cases x nt (by omega) with ⟨t, ht, rfl⟩ | hw
  · have hv := thing_b hB ht
    have lk := likes_36 (Wk (gi 64 0) t) (Tk (gi 64 0) t)
    have hW := hv.1.2.2.2.1
    have hT := hv.1.2.2.2.2.1
    have h64 := wt64 hW.2 hT.2
    rcases win_cases y (likes (Wk (gi 64 0) t) (Tk (gi 64 0) t)) (by omega) with ⟨l, hl, rfl⟩ | hl
    · rw [e_S_quite, b_S_quite_0]
      refine c_paperFor (d := d + 13) hG b1 n6 hTh hPI ht hl ?_
      intro gi1 ho hp
      have key := loop_up (n := Wk (gi 64 0) t * Tk (gi 64 0) t) (P := fun i => ∀ gi2 o0 o1, OnlyI gi1 gi2 57 t → Runs (d + 19) (m_S_quite, 19, [o0, o1, some (.inl (n32 l)), some (.inr (.inr (some (3, t)))), some (.inl (n32 (sumN (fun c => nq (bk (gi 64 0) t c) (bestF (Wk (gi 64 0) t) (Tk (gi 64 0) t) (bk (gi 64 0) t) l c)) i))), some (.inl (n32 i))], []) (gi2, g) (fun r h => ax_call (d + 20) m_M_quite [.inr (.inr (some (12, 0))), .inl (n32 t), .inl (n32 l)] h (fun r' h' => Q r r' h'))) ?_ ?_
      · simp only [b_S_quite_6b, b_S_quite_13, ax_psh_none, ax_psh_some, true_and, and_true, and_false, false_and, not_true_eq_false, not_false_eq_true, true_imp_iff, false_imp_iff, imp_self, or_true, true_or, or_false, false_or, and_self, ite_true, ite_false, if_true, if_false]
        exact key 0 (Nat.zero_le _) gi1 _ _ (fun _ _ _ _ => rfl)
      · intro i hi ih gi2 o0 o1 ho2
        have hp2 := Pap_57 hp ho2
        rw [b_S_quite_19]
        simp (disch := omega) only [b_S_quite_25, b_S_quite_28, c_Paper_area _ _ _ _ hp2.1.1 hp2.1.2.1, hi, n32_add, n32_mul, n32_lt, n32_le, n32_eq, n32_clamp, n32_inT, n32_div, n32_rem, n32_m1, n32_m1', n32_m1lt, n32_ltm1, n32_10, n32_01, Nat.not_lt_zero, Nat.lt_irrefl, Nat.mul_zero, Nat.zero_mul, Nat.zero_add, Nat.add_zero, Nat.reduceEqDiff, Nat.one_ne_zero, Nat.zero_ne_one, ax_psh_none, ax_psh_some, true_and, and_true, and_false, false_and, not_true_eq_false, not_false_eq_true, true_imp_iff, false_imp_iff, imp_self, or_true, true_or, or_false, false_or, and_self, ite_true, ite_false, if_true, if_false]
        refine c_mostOfRing (d := d + 17) hG (by omega) hp2 hl hi ?_
        intro gi3 ho3
        have ho23 : OnlyI gi1 gi3 57 t := fun s a j q => (ho3 s a j q).trans (ho2 s a j q)
        have hp3 := Pap_57 hp ho23
        have hb10 := hp.2.2.2.2.1 i hi
        have hbe : amx (ringC (Wk (gi 64 0) t) (Tk (gi 64 0) t) (bk (gi 64 0) t) l i) 9 ≤ 9 := amx_le _ _
        by_cases z : amx (ringC (Wk (gi 64 0) t) (Tk (gi 64 0) t) (bk (gi 64 0) t) l i) 9 = bk (gi 64 0) t i
        · simp (disch := omega) only [b_S_quite_35, b_S_quite_48, G_0_0 hG, G_0_1 hG, G_0_2 hG, G_0_3 hG, G_0_7 hG, G_0_10 hG, G_0_12 hG, G_0_13 hG, G_0_14 hG, G_0_15 hG, G_0_16 hG, G_0_17 hG, G_1_0 hG, G_1_2 hG, G_1_5 hG, G_2_4 hG, G_2_5 hG, G_3_5 hG, G_3_6 hG, G_3_7 hG, G_3_8 hG, G_3_9 hG, G_5_0 hG, G_5_1 hG, G_6_0 hG, G_6_1 hG, G_6_2 hG, G_6_9 hG, G_6_10 hG, G_6_11 hG, G_6_12 hG, G_6_13 hG, G_7_0 hG, G_7_5 hG, G_8_8 hG, G_8_9 hG, G_9_8 hG, G_9_9 hG, G_10_7 hG, G_10_8 hG, G_10_9 hG, G_10_10 hG, G_10_11 hG, G_11_0 hG, G_12_2 hG, G_12_3 hG, G_12_4 hG, G_12_5 hG, G_12_7 hG, G_12_8 hG, G_12_9 hG, G_12_12 hG, G_12_13 hG, G_12_14 hG, G_12_22 hG, G_12_23 hG, G_12_29 hG, G_12_30 hG, G_12_31 hG, G_12_37 hG, G_12_38 hG, G_12_39 hG, G_12_40 hG, G_12_41 hG, G_12_43 hG, G_12_46 hG, G_12_47 hG, G_12_48 hG, G_25 hG, G_26 hG, G_47 hG, G_58 hG, hp3.2.2.2.1 i (by omega), z, n32_add, n32_mul, n32_lt, n32_le, n32_eq, n32_clamp, n32_inT, n32_div, n32_rem, n32_m1, n32_m1', n32_m1lt, n32_ltm1, n32_10, n32_01, Nat.not_lt_zero, Nat.lt_irrefl, Nat.mul_zero, Nat.zero_mul, Nat.zero_add, Nat.add_zero, Nat.reduceEqDiff, Nat.one_ne_zero, Nat.zero_ne_one, ax_psh_none, ax_psh_some, true_and, and_true, and_false, false_and, not_true_eq_false, not_false_eq_true, true_imp_iff, false_imp_iff, imp_self, or_true, true_or, or_false, false_or, and_self, ite_true, ite_false, if_true, if_false]
          have := ih gi3 o0 o1 ho23
          rw [sumN_succ, nq, if_pos (show bk (gi 64 0) t i = bestF (Wk (gi 64 0) t) (Tk (gi 64 0) t) (bk (gi 64 0) t) l i from z.symm)] at this
          exact this
        · simp (disch := omega) only [b_S_quite_35, b_S_quite_45, b_S_quite_48, G_0_0 hG, G_0_1 hG, G_0_2 hG, G_0_3 hG, G_0_7 hG, G_0_10 hG, G_0_12 hG, G_0_13 hG, G_0_14 hG, G_0_15 hG, G_0_16 hG, G_0_17 hG, G_1_0 hG, G_1_2 hG, G_1_5 hG, G_2_4 hG, G_2_5 hG, G_3_5 hG, G_3_6 hG, G_3_7 hG, G_3_8 hG, G_3_9 hG, G_5_0 hG, G_5_1 hG, G_6_0 hG, G_6_1 hG, G_6_2 hG, G_6_9 hG, G_6_10 hG, G_6_11 hG, G_6_12 hG, G_6_13 hG, G_7_0 hG, G_7_5 hG, G_8_8 hG, G_8_9 hG, G_9_8 hG, G_9_9 hG, G_10_7 hG, G_10_8 hG, G_10_9 hG, G_10_10 hG, G_10_11 hG, G_11_0 hG, G_12_2 hG, G_12_3 hG, G_12_4 hG, G_12_5 hG, G_12_7 hG, G_12_8 hG, G_12_9 hG, G_12_12 hG, G_12_13 hG, G_12_14 hG, G_12_22 hG, G_12_23 hG, G_12_29 hG, G_12_30 hG, G_12_31 hG, G_12_37 hG, G_12_38 hG, G_12_39 hG, G_12_40 hG, G_12_41 hG, G_12_43 hG, G_12_46 hG, G_12_47 hG, G_12_48 hG, G_25 hG, G_26 hG, G_47 hG, G_58 hG, hp3.2.2.2.1 i (by omega), z, n32_add, n32_mul, n32_lt, n32_le, n32_eq, n32_clamp, n32_inT, n32_div, n32_rem, n32_m1, n32_m1', n32_m1lt, n32_ltm1, n32_10, n32_01, Nat.not_lt_zero, Nat.lt_irrefl, Nat.mul_zero, Nat.zero_mul, Nat.zero_add, Nat.add_zero, Nat.reduceEqDiff, Nat.one_ne_zero, Nat.zero_ne_one, ax_psh_none, ax_psh_some, true_and, and_true, and_false, false_and, not_true_eq_false, not_false_eq_true, true_imp_iff, false_imp_iff, imp_self, or_true, true_or, or_false, false_or, and_self, ite_true, ite_false, if_true, if_false]
          have := ih gi3 o0 o1 ho23
          rw [sumN_succ, nq, if_neg (show ¬ bk (gi 64 0) t i = bestF (Wk (gi 64 0) t) (Tk (gi 64 0) t) (bk (gi 64 0) t) l i from fun z' => z z'.symm)] at this
          exact this
      · intro gi2 o0 o1 ho2
        have hp2 := Pap_57 hp ho2
        have ho12 := OnlyP_trans ho (OnlyP_57 ho2)
        have hq1 := qMod_P ho12
        have hB1 := BK_q hB hq1 (GF_refl hG)
        rw [b_S_quite_19]
        simp (disch := omega) only [b_S_quite_25, b_S_quite_54, c_Paper_area _ _ _ _ hp2.1.1 hp2.1.2.1, n32_add, n32_mul, n32_lt, n32_le, n32_eq, n32_clamp, n32_inT, n32_div, n32_rem, n32_m1, n32_m1', n32_m1lt, n32_ltm1, n32_10, n32_01, Nat.not_lt_zero, Nat.lt_irrefl, Nat.mul_zero, Nat.zero_mul, Nat.zero_add, Nat.add_zero, Nat.reduceEqDiff, Nat.one_ne_zero, Nat.zero_ne_one, ax_psh_none, ax_psh_some, true_and, and_true, and_false, false_and, not_true_eq_false, not_false_eq_true, true_imp_iff, false_imp_iff, imp_self, or_true, true_or, or_false, false_or, and_self, ite_true, ite_false, if_true, if_false]
        refine c_M_quite (d := d + 16) hB1 ht hl ?_
        intro gi3 gi4 fr3 fr4 _
        exact q_end hC hQ (Fr_trans hq1 (Fr_trans (qMod_lay fr3) (qMod_qui fr4))) (GF_refl hG) (PI_qui (PI_lay (PI_P hPI ho12 (Pap_inv hp2)) fr3) fr4) (St_qui (St_ow (St_P hs ho12) (Fr_owl fr3)) fr4) (by omega) _
    · rw [e_S_quite, b_S_quite_0, c_paperFor_l (d + 13) hG b1 n6 hTh ht hl]
      simp (disch := omega) only [b_S_quite_6a, b_S_quite_11, n32_add, n32_mul, n32_lt, n32_le, n32_eq, n32_clamp, n32_inT, n32_div, n32_rem, n32_m1, n32_m1', n32_m1lt, n32_ltm1, n32_10, n32_01, Nat.not_lt_zero, Nat.lt_irrefl, Nat.mul_zero, Nat.zero_mul, Nat.zero_add, Nat.add_zero, Nat.reduceEqDiff, Nat.one_ne_zero, Nat.zero_ne_one, ax_psh_none, ax_psh_some, true_and, and_true, and_false, false_and, not_true_eq_false, not_false_eq_true, true_imp_iff, false_imp_iff, imp_self, or_true, true_or, or_false, false_or, and_self, ite_true, ite_false, if_true, if_false]
      refine c_M_quite_l (d := d + 16) hB ht hl ?_
      intro gi2 fr2
      exact q_end hC hQ (qMod_lay fr2) (GF_refl hG) (PI_lay hPI fr2) (St_ow hs (Fr_owl fr2)) (by omega) _
  · rw [e_S_quite, b_S_quite_0, c_paperFor_n (d + 13) _ _ _ hG b1 hw]
    simp (disch := omega) only [b_S_quite_6a, b_S_quite_11, c_M_quite_n _ hG k796 hw, n32_add, n32_mul, n32_lt, n32_le, n32_eq, n32_clamp, n32_inT, n32_div, n32_rem, n32_m1, n32_m1', n32_m1lt, n32_ltm1, n32_10, n32_01, Nat.not_lt_zero, Nat.lt_irrefl, Nat.mul_zero, Nat.zero_mul, Nat.zero_add, Nat.add_zero, Nat.reduceEqDiff, Nat.one_ne_zero, Nat.zero_ne_one, ax_psh_none, ax_psh_some, true_and, and_true, and_false, false_and, not_true_eq_false, not_false_eq_true, true_imp_iff, false_imp_iff, imp_self, or_true, true_or, or_false, false_or, and_self, ite_true, ite_false, if_true, if_false]
    exact op_end (D := d) (Core_same hC) hQ _
theorem sumN_nq (f g : Nat → Nat) (n : Nat) : sumN (fun c => nq (f c) (g c)) n ≤ n := sumN_le1 (fun i => nq_le _ _) n
theorem op_quiteAt (x y a b : Int32) : Op m_S_quiteAt m_M_quiteAt [.inl x, .inl y, .inl a, .inl b] := by
  intro D n gi g Ls Q hD hn hC hQ
  obtain ⟨d, rfl⟩ : ∃ d2, D = d2 + 20 := ⟨D - 20, by omega⟩
  obtain ⟨nt, m, s, hB, hG, b1, n6, hTh, hPI, hs2, hs, k796⟩ := ask_of hC
  rcases win_cases x nt (by omega) with ⟨t, ht, rfl⟩ | hw
  · have hv := thing_b hB ht
    have lk := likes_36 (Wk (gi 64 0) t) (Tk (gi 64 0) t)
    have hW := hv.1.2.2.2.1
    have hT := hv.1.2.2.2.2.1
    have h64 := wt64 hW.2 hT.2
    rcases win_cases y (likes (Wk (gi 64 0) t) (Tk (gi 64 0) t)) (by omega) with ⟨l, hl, rfl⟩ | hl
    · have hnq := sumN_nq (bk (gi 64 0) t) (bestF (Wk (gi 64 0) t) (Tk (gi 64 0) t) (bk (gi 64 0) t) l) (Wk (gi 64 0) t * Tk (gi 64 0) t)
      rw [e_S_quiteAt, b_S_quiteAt_0]
      refine c_paperFor (d := d + 13) hG b1 n6 hTh hPI ht hl ?_
      intro gi1 ho hp
      rcases xy_cases a b (Wk (gi 64 0) t) (Tk (gi 64 0) t) hW.2 hT.2 with ⟨a', b', ha, hb, rfl, rfl⟩ | hxy
      · have hlt := xy_lt ha hb
        simp (disch := omega) only [b_S_quiteAt_6b, b_S_quiteAt_15, b_S_quiteAt_31, b_S_quiteAt_43, hp.1.1, hp.1.2.1, c_S_cellIn _ _ _ _ hW.2 hT.2 ha hb, n32_add, n32_mul, n32_lt, n32_le, n32_eq, n32_clamp, n32_inT, n32_div, n32_rem, n32_m1, n32_m1', n32_m1lt, n32_ltm1, n32_10, n32_01, Nat.not_lt_zero, Nat.lt_irrefl, Nat.mul_zero, Nat.zero_mul, Nat.zero_add, Nat.add_zero, Nat.reduceEqDiff, Nat.one_ne_zero, Nat.zero_ne_one, ax_psh_none, ax_psh_some, true_and, and_true, and_false, false_and, not_true_eq_false, not_false_eq_true, true_imp_iff, false_imp_iff, imp_self, or_true, true_or, or_false, false_or, and_self, ite_true, ite_false, if_true, if_false]
        refine c_mostOfRing (d := d + 17) hG (by omega) hp hl hlt ?_
        intro gi2 ho2
        have hp2 := Pap_57 hp ho2
        have ho12 := OnlyP_trans ho (OnlyP_57 ho2)
        have hq1 := qMod_P ho12
        have hB1 := BK_q hB hq1 (GF_refl hG)
        simp only [b_S_quiteAt_51, ax_psh_none, ax_psh_some, true_and, and_true, and_false, false_and, not_true_eq_false, not_false_eq_true, true_imp_iff, false_imp_iff, imp_self, or_true, true_or, or_false, false_or, and_self, ite_true, ite_false, if_true, if_false]
        rw [e_M_quiteAt, b_M_quiteAt_0]
        refine c_M_quite (d := d + 15) hB1 ht hl ?_
        intro gi3 gi4 fr3 fr4 h75
        have hq4 := Fr_trans hq1 (Fr_trans (qMod_lay fr3) (qMod_qui fr4))
        have hB4 := BK_q hB hq4 (GF_refl hG)
        have hv4 := thing_b hB4 ht
        simp (disch := omega) only [b_M_quiteAt_6, b_M_quiteAt_10, b_M_quiteAt_18, b_M_quiteAt_23, b_M_quiteAt_35, G_0_0 hG, G_0_1 hG, G_0_2 hG, G_0_3 hG, G_0_7 hG, G_0_10 hG, G_0_12 hG, G_0_13 hG, G_0_14 hG, G_0_15 hG, G_0_16 hG, G_0_17 hG, G_1_0 hG, G_1_2 hG, G_1_5 hG, G_2_4 hG, G_2_5 hG, G_3_5 hG, G_3_6 hG, G_3_7 hG, G_3_8 hG, G_3_9 hG, G_5_0 hG, G_5_1 hG, G_6_0 hG, G_6_1 hG, G_6_2 hG, G_6_9 hG, G_6_10 hG, G_6_11 hG, G_6_12 hG, G_6_13 hG, G_7_0 hG, G_7_5 hG, G_8_8 hG, G_8_9 hG, G_9_8 hG, G_9_9 hG, G_10_7 hG, G_10_8 hG, G_10_9 hG, G_10_10 hG, G_10_11 hG, G_11_0 hG, G_12_2 hG, G_12_3 hG, G_12_4 hG, G_12_5 hG, G_12_7 hG, G_12_8 hG, G_12_9 hG, G_12_12 hG, G_12_13 hG, G_12_14 hG, G_12_22 hG, G_12_23 hG, G_12_29 hG, G_12_30 hG, G_12_31 hG, G_12_37 hG, G_12_38 hG, G_12_39 hG, G_12_40 hG, G_12_41 hG, G_12_43 hG, G_12_46 hG, G_12_47 hG, G_12_48 hG, G_25 hG, G_26 hG, G_47 hG, G_58 hG, c_M_isCell _ _ _ _ hG (by omega : t < 6) hv4.2.1.1 hv4.2.1.2.1 hW.2 hT.2 ha hb, c_M_cellOf _ _ _ _ hG (by omega : t < 6) hv4.2.1.1, h75 _ hlt, n32_add, n32_mul, n32_lt, n32_le, n32_eq, n32_clamp, n32_inT, n32_div, n32_rem, n32_m1, n32_m1', n32_m1lt, n32_ltm1, n32_10, n32_01, Nat.not_lt_zero, Nat.lt_irrefl, Nat.mul_zero, Nat.zero_mul, Nat.zero_add, Nat.add_zero, Nat.reduceEqDiff, Nat.one_ne_zero, Nat.zero_ne_one, ax_psh_none, ax_psh_some, true_and, and_true, and_false, false_and, not_true_eq_false, not_false_eq_true, true_imp_iff, false_imp_iff, imp_self, or_true, true_or, or_false, false_or, and_self, ite_true, ite_false, if_true, if_false]
        exact q_end hC hQ hq4 (GF_refl hG) (PI_qui (PI_lay (PI_P hPI ho12 (Pap_inv hp2)) fr3) fr4) (St_qui (St_ow (St_P hs ho12) (Fr_owl fr3)) fr4) (by omega) _
      · have hq1 := qMod_P ho
        have hB1 := BK_q hB hq1 (GF_refl hG)
        simp (disch := omega) only [b_S_quiteAt_6b, b_S_quiteAt_15, b_S_quiteAt_31, b_S_quiteAt_39, b_S_quiteAt_51, hp.1.1, hp.1.2.1, c_S_cellIn_n _ _ _ _ hxy, n32_add, n32_mul, n32_lt, n32_le, n32_eq, n32_clamp, n32_inT, n32_div, n32_rem, n32_m1, n32_m1', n32_m1lt, n32_ltm1, n32_10, n32_01, Nat.not_lt_zero, Nat.lt_irrefl, Nat.mul_zero, Nat.zero_mul, Nat.zero_add, Nat.add_zero, Nat.reduceEqDiff, Nat.one_ne_zero, Nat.zero_ne_one, ax_psh_none, ax_psh_some, true_and, and_true, and_false, false_and, not_true_eq_false, not_false_eq_true, true_imp_iff, false_imp_iff, imp_self, or_true, true_or, or_false, false_or, and_self, ite_true, ite_false, if_true, if_false]
        rw [e_M_quiteAt, b_M_quiteAt_0]
        refine c_M_quite (d := d + 15) hB1 ht hl ?_
        intro gi3 gi4 fr3 fr4 h75
        have hq4 := Fr_trans hq1 (Fr_trans (qMod_lay fr3) (qMod_qui fr4))
        have hB4 := BK_q hB hq4 (GF_refl hG)
        have hv4 := thing_b hB4 ht
        simp (disch := omega) only [b_M_quiteAt_6, b_M_quiteAt_10, b_M_quiteAt_18, b_M_quiteAt_21, c_M_isCell_n _ _ _ _ hG (by omega : t < 6) hv4.2.1.1 hv4.2.1.2.1 hxy, n32_add, n32_mul, n32_lt, n32_le, n32_eq, n32_clamp, n32_inT, n32_div, n32_rem, n32_m1, n32_m1', n32_m1lt, n32_ltm1, n32_10, n32_01, Nat.not_lt_zero, Nat.lt_irrefl, Nat.mul_zero, Nat.zero_mul, Nat.zero_add, Nat.add_zero, Nat.reduceEqDiff, Nat.one_ne_zero, Nat.zero_ne_one, ax_psh_none, ax_psh_some, true_and, and_true, and_false, false_and, not_true_eq_false, not_false_eq_true, true_imp_iff, false_imp_iff, imp_self, or_true, true_or, or_false, false_or, and_self, ite_true, ite_false, if_true, if_false]
        exact q_end hC hQ hq4 (GF_refl hG) (PI_qui (PI_lay (PI_P hPI ho (Pap_inv hp)) fr3) fr4) (St_qui (St_ow (St_P hs ho) (Fr_owl fr3)) fr4) (by omega) _
    · rw [e_S_quiteAt, b_S_quiteAt_0, c_paperFor_l (d + 13) hG b1 n6 hTh ht hl]
      simp (disch := omega) only [b_S_quiteAt_6a, b_S_quiteAt_13, n32_add, n32_mul, n32_lt, n32_le, n32_eq, n32_clamp, n32_inT, n32_div, n32_rem, n32_m1, n32_m1', n32_m1lt, n32_ltm1, n32_10, n32_01, Nat.not_lt_zero, Nat.lt_irrefl, Nat.mul_zero, Nat.zero_mul, Nat.zero_add, Nat.add_zero, Nat.reduceEqDiff, Nat.one_ne_zero, Nat.zero_ne_one, ax_psh_none, ax_psh_some, true_and, and_true, and_false, false_and, not_true_eq_false, not_false_eq_true, true_imp_iff, false_imp_iff, imp_self, or_true, true_or, or_false, false_or, and_self, ite_true, ite_false, if_true, if_false]
      rw [e_M_quiteAt, b_M_quiteAt_0]
      refine c_M_quite_l (d := d + 15) hB ht hl ?_
      intro gi2 fr2
      simp (disch := omega) only [b_M_quiteAt_6, b_M_quiteAt_21, n32_add, n32_mul, n32_lt, n32_le, n32_eq, n32_clamp, n32_inT, n32_div, n32_rem, n32_m1, n32_m1', n32_m1lt, n32_ltm1, n32_10, n32_01, Nat.not_lt_zero, Nat.lt_irrefl, Nat.mul_zero, Nat.zero_mul, Nat.zero_add, Nat.add_zero, Nat.reduceEqDiff, Nat.one_ne_zero, Nat.zero_ne_one, ax_psh_none, ax_psh_some, true_and, and_true, and_false, false_and, not_true_eq_false, not_false_eq_true, true_imp_iff, false_imp_iff, imp_self, or_true, true_or, or_false, false_or, and_self, ite_true, ite_false, if_true, if_false]
      exact q_end hC hQ (qMod_lay fr2) (GF_refl hG) (PI_lay hPI fr2) (St_ow hs (Fr_owl fr2)) (by omega) _
  · rw [e_S_quiteAt, b_S_quiteAt_0, c_paperFor_n (d + 13) _ _ _ hG b1 hw]
    simp (disch := omega) only [b_S_quiteAt_6a, b_S_quiteAt_13, e_M_quiteAt, b_M_quiteAt_0, b_M_quiteAt_6, b_M_quiteAt_21, c_M_quite_n _ hG k796 hw, n32_add, n32_mul, n32_lt, n32_le, n32_eq, n32_clamp, n32_inT, n32_div, n32_rem, n32_m1, n32_m1', n32_m1lt, n32_ltm1, n32_10, n32_01, Nat.not_lt_zero, Nat.lt_irrefl, Nat.mul_zero, Nat.zero_mul, Nat.zero_add, Nat.add_zero, Nat.reduceEqDiff, Nat.one_ne_zero, Nat.zero_ne_one, ax_psh_none, ax_psh_some, true_and, and_true, and_false, false_and, not_true_eq_false, not_false_eq_true, true_imp_iff, false_imp_iff, imp_self, or_true, true_or, or_false, false_or, and_self, ite_true, ite_false, if_true, if_false]
    exact op_end (D := d) (Core_same hC) hQ _
