/-! the reference's tax -/
def Laid (gi : GI) (t W T : Nat) (b : Nat → Nat) : Prop := gi 12 0 24 = n32 t ∧ gi 12 0 25 = n32 W ∧ gi 12 0 26 = n32 T ∧ W ≤ 8 ∧ T ≤ 8 ∧ t < 6 ∧ ∀ c, c < W * T → gi 74 0 c = n32 (b c) ∧ b c < 10
theorem c_M_partsOf (d : Nat) {gi : GI} {g : AG} {Q : Option AV → AH → Prop} (hG : GOK g) {t W T : Nat} {b : Nat → Nat} (h : Laid gi t W T b) : ax_call (d + 1) m_M_partsOf [.inr (.inr (some (12, 0)))] (gi, g) Q = Q (some (.inl (n32 (ptsF (W * T) b)))) (gi, g) := by
  obtain ⟨-, hw, ht, hW, hT, -, hb⟩ := h
  have h64 := wt64 hW hT
  have hm : ∀ i, i ≤ W * T → maskF b i < 1024 := fun i hi => mask_lt (fun c hc => (hb c (by omega)).2)
  have key2 := loop_up (n := 10) (P := fun i => ∀ o0, Runs d (m_M_partsOf, 38, [o0, some (.inl (n32 (maskF b (W * T)))), some (.inl (n32 (sumN (fun p => tb (maskF b (W * T)) p) i))), some (.inl (n32 i))], []) (gi, g) Q = Q (some (.inl (n32 (ptsF (W * T) b)))) (gi, g)) ?_ ?_
  · have key := loop_up (n := W * T) (P := fun i => ∀ o3, Runs d (m_M_partsOf, 4, [some (.inr (.inr (some (12, 0)))), some (.inl (n32 (maskF b i))), some (.inl (n32 i)), o3], []) (gi, g) Q = Q (some (.inl (n32 (ptsF (W * T) b)))) (gi, g)) ?_ ?_
    · rw [e_M_partsOf, b_M_partsOf_0]
      exact key 0 (Nat.zero_le _) _
    · intro i hi ih o3
      have hbi := hb i hi
      rw [b_M_partsOf_4]
      simp (disch := omega) only [b_M_partsOf_17, hw, ht, hi, G_0_0 hG, G_0_1 hG, G_0_2 hG, G_0_3 hG, G_0_7 hG, G_0_10 hG, G_0_12 hG, G_0_13 hG, G_0_14 hG, G_0_15 hG, G_0_16 hG, G_0_17 hG, G_1_0 hG, G_1_2 hG, G_1_5 hG, G_2_4 hG, G_2_5 hG, G_3_5 hG, G_3_6 hG, G_3_7 hG, G_3_8 hG, G_3_9 hG, G_5_0 hG, G_5_1 hG, G_6_0 hG, G_6_1 hG, G_6_2 hG, G_6_9 hG, G_6_10 hG, G_6_11 hG, G_6_12 hG, G_6_13 hG, G_7_0 hG, G_7_5 hG, G_8_8 hG, G_8_9 hG, G_9_8 hG, G_9_9 hG, G_10_7 hG, G_10_8 hG, G_10_9 hG, G_10_10 hG, G_10_11 hG, G_11_0 hG, G_12_2 hG, G_12_3 hG, G_12_4 hG, G_12_5 hG, G_12_7 hG, G_12_8 hG, G_12_9 hG, G_12_12 hG, G_12_13 hG, G_12_14 hG, G_12_22 hG, G_12_23 hG, G_12_29 hG, G_12_30 hG, G_12_31 hG, G_12_37 hG, G_12_38 hG, G_12_39 hG, G_12_40 hG, G_12_41 hG, G_12_43 hG, G_12_46 hG, G_12_47 hG, G_12_48 hG, G_25 hG, G_26 hG, G_47 hG, G_58 hG, hbi.1, sl_ok hbi.2, or_ok, n32_add, n32_mul, n32_lt, n32_le, n32_eq, n32_clamp, n32_inT, n32_div, n32_rem, n32_m1, n32_m1', n32_m1lt, n32_ltm1, n32_10, n32_01, Nat.not_lt_zero, Nat.lt_irrefl, Nat.mul_zero, Nat.zero_mul, Nat.zero_add, Nat.add_zero, Nat.reduceEqDiff, Nat.one_ne_zero, Nat.zero_ne_one, ax_psh_none, ax_psh_some, true_and, and_true, and_false, false_and, not_true_eq_false, not_false_eq_true, true_imp_iff, false_imp_iff, imp_self, or_true, true_or, or_false, false_or, and_self, ite_true, ite_false, if_true, if_false]
      exact ih _
    · intro o3
      rw [b_M_partsOf_4]
      simp (disch := omega) only [b_M_partsOf_34, hw, ht, n32_add, n32_mul, n32_lt, n32_le, n32_eq, n32_clamp, n32_inT, n32_div, n32_rem, n32_m1, n32_m1', n32_m1lt, n32_ltm1, n32_10, n32_01, Nat.not_lt_zero, Nat.lt_irrefl, Nat.mul_zero, Nat.zero_mul, Nat.zero_add, Nat.add_zero, Nat.reduceEqDiff, Nat.one_ne_zero, Nat.zero_ne_one, ax_psh_none, ax_psh_some, true_and, and_true, and_false, false_and, not_true_eq_false, not_false_eq_true, true_imp_iff, false_imp_iff, imp_self, or_true, true_or, or_false, false_or, and_self, ite_true, ite_false, if_true, if_false]
      exact key2 0 (Nat.zero_le _) _
  · intro i hi ih o0
    rw [b_M_partsOf_38]
    simp (disch := omega) only [b_M_partsOf_44, hi, sr_ok (hm _ (Nat.le_refl _)) hi, n32_add, n32_mul, n32_lt, n32_le, n32_eq, n32_clamp, n32_inT, n32_div, n32_rem, n32_m1, n32_m1', n32_m1lt, n32_ltm1, n32_10, n32_01, Nat.not_lt_zero, Nat.lt_irrefl, Nat.mul_zero, Nat.zero_mul, Nat.zero_add, Nat.add_zero, Nat.reduceEqDiff, Nat.one_ne_zero, Nat.zero_ne_one, ax_psh_none, ax_psh_some, true_and, and_true, and_false, false_and, not_true_eq_false, not_false_eq_true, true_imp_iff, false_imp_iff, imp_self, or_true, true_or, or_false, false_or, and_self, ite_true, ite_false, if_true, if_false]
    exact ih _
  · intro o0
    rw [b_M_partsOf_38]
    simp (disch := omega) only [b_M_partsOf_58, n32_add, n32_mul, n32_lt, n32_le, n32_eq, n32_clamp, n32_inT, n32_div, n32_rem, n32_m1, n32_m1', n32_m1lt, n32_ltm1, n32_10, n32_01, Nat.not_lt_zero, Nat.lt_irrefl, Nat.mul_zero, Nat.zero_mul, Nat.zero_add, Nat.add_zero, Nat.reduceEqDiff, Nat.one_ne_zero, Nat.zero_ne_one, ax_psh_none, ax_psh_some, true_and, and_true, and_false, false_and, not_true_eq_false, not_false_eq_true, true_imp_iff, false_imp_iff, imp_self, or_true, true_or, or_false, false_or, and_self, ite_true, ite_false, if_true, if_false]
    rw [← mask_pop]
    rfl
def envF (like off W T O dy p : Nat) : Nat → Int
  | 0 => like
  | 1 => off
  | 2 => W
  | 3 => T
  | 4 => (W * T : Nat)
  | 5 => O
  | 6 => dy
  | _ => p
/-- a law as the reference keeps it -/
def KLaw (K : Nat → Int32) (l : Nat) (L : List PC) : Prop := ∃ c v N, N ≤ 400 ∧ (∀ a, N ≤ a → c a = 0) ∧ K (799 + l) = n32 N ∧ (∀ i, i < N → K (805 + (400 * l + i)) = n32 (c i) ∧ c i < 356 ∧ (c i = 50 → v i ≤ 1000 → K (3205 + (400 * l + i)) = n32 (v i))) ∧ pLaw c v N 12 0 0 0 = .inr L
def taxMod (s j : Nat) : Bool := (s == 12 && (j == 19 || j == 20 || j == 21)) || s == 73
theorem Fr_tax {gi gi' : GI} (h : Fr evMod gi gi') : Fr taxMod gi gi' := Fr_mono h (fun s j q => by
  unfold taxMod at q
  unfold evMod
  simp only [Bool.or_eq_false_iff, Bool.and_eq_false_iff] at q ⊢
  rcases q.1 with z | z
  · exact Or.inl z
  · exact Or.inr ⟨z.1.1, z.2⟩)
theorem clamp_l {d : Nat} {gi : GI} {g : AG} {Q : Option AV → AH → Prop} {x : Int} (hx : Bd x) (o1 o2 o3 x4 o5 o7 o8 o9 : Option AV) (hq : ∀ o2 o6, Runs d (m_M_taxOf, 300, [some (.inr (.inr (some (12, 0)))), o1, o2, some (.inl (n32 (clamp x))), x4, o5, o6, o7, o8, o9], []) (gi, g) Q) (h4 : ∃ z, x4 = some (.inl z)) : Runs d (m_M_taxOf, 270, [some (.inr (.inr (some (12, 0)))), o1, o2, o3, x4, o5, some (.inr (.inl (lv x))), o7, o8, o9], []) (gi, g) Q := by
  obtain ⟨z, rfl⟩ := h4
  have b9 : Bg ((999 : Nat) : Int) := by unfold Bg; omega
  by_cases h1 : x < 0
  · simp only [b_M_taxOf_270, b_M_taxOf_277, b_M_taxOf_299, z64, cmp_lt (Bd_g hx) Bg0, h1, ax_psh_none, ax_psh_some, true_and, and_true, and_false, false_and, not_true_eq_false, not_false_eq_true, true_imp_iff, false_imp_iff, imp_self, or_true, true_or, or_false, false_or, and_self, ite_true, ite_false, if_true, if_false]
    have e : clamp x = 0 := by unfold clamp; rw [if_pos h1]
    rw [e] at hq
    exact hq _ _
  · by_cases h2 : ((999 : Nat) : Int) < x
    · simp only [b_M_taxOf_270, b_M_taxOf_281, b_M_taxOf_290, b_M_taxOf_299, z64, lo_n (by omega : 999 < 2147483648), cmp_lt (Bd_g hx) Bg0, cmp_gt (Bd_g hx) b9, h1, h2, ax_psh_none, ax_psh_some, true_and, and_true, and_false, false_and, not_true_eq_false, not_false_eq_true, true_imp_iff, false_imp_iff, imp_self, or_true, true_or, or_false, false_or, and_self, ite_true, ite_false, if_true, if_false]
      have e : clamp x = 999 := by unfold clamp; rw [if_neg h1, if_pos (by omega)]
      rw [e] at hq
      exact hq _ _
    · simp only [b_M_taxOf_270, b_M_taxOf_281, b_M_taxOf_296, b_M_taxOf_299, z64, lo_n (by omega : 999 < 2147483648), cmp_lt (Bd_g hx) Bg0, cmp_gt (Bd_g hx) b9, h1, h2, lo_32, ax_psh_none, ax_psh_some, true_and, and_true, and_false, false_and, not_true_eq_false, not_false_eq_true, true_imp_iff, false_imp_iff, imp_self, or_true, true_or, or_false, false_or, and_self, ite_true, ite_false, if_true, if_false]
      have e : iv x = n32 (clamp x) := by
        unfold clamp
        rw [if_neg h1, if_neg (by omega), ← iv_n, Int.toNat_of_nonneg (by omega)]
      rw [e]
      exact hq _ _
theorem tax_end {d : Nat} {gi : GI} {g : AG} {Q : Option AV → AH → Prop} {x : Int} (hx : Bd x) (is tb sb sp spd : Bool) (told : Int32) (h21 : gi 12 0 21 = b32 tb) (o1 o2 o7 o9 : Option AV)
    (hn : (is && !tb && !sb) = false → ∀ o1 o2 o5 o6 o7 o8 o9, Runs d (m_M_taxOf, 300, [some (.inr (.inr (some (12, 0)))), o1, o2, some (.inl told), some (.inl (b32 spd)), o5, o6, o7, o8, o9], []) (gi, g) Q)
    (hs : (is && !tb && !sb) = true → sp = true → ∀ o1 o2 o5 o6 o7 o8 o9, Runs d (m_M_taxOf, 300, [some (.inr (.inr (some (12, 0)))), o1, o2, some (.inl told), some (.inl (b32 true)), o5, o6, o7, o8, o9], []) (gi, g) Q)
    (ht : (is && !tb && !sb) = true → sp = false → ∀ o1 o2 o5 o6 o7 o8 o9, Runs d (m_M_taxOf, 300, [some (.inr (.inr (some (12, 0)))), o1, o2, some (.inl (n32 (clamp x))), some (.inl (b32 spd)), o5, o6, o7, o8, o9], []) (gi, g) Q) :
    Runs d (m_M_taxOf, 229, [some (.inr (.inr (some (12, 0)))), o1, o2, some (.inl told), some (.inl (b32 spd)), some (.inl (b32 sp)), some (.inr (.inl (lv x))), o7, some (.inl (b32 sb)), o9], [.inl (b32 is)]) (gi, g) Q := by
  cases is with
  | false =>
    simp only [b_M_taxOf_229, b32_0, ax_psh_none, ax_psh_some, true_and, and_true, and_false, false_and, not_true_eq_false, not_false_eq_true, true_imp_iff, false_imp_iff, imp_self, or_true, true_or, or_false, false_or, and_self, ite_true, ite_false, if_true, if_false]
    exact hn rfl _ _ _ _ _ _ _
  | true =>
    cases tb with
    | true =>
      simp only [b_M_taxOf_229, b_M_taxOf_236, h21, b32_1, n32_10, ax_psh_none, ax_psh_some, true_and, and_true, and_false, false_and, not_true_eq_false, not_false_eq_true, true_imp_iff, false_imp_iff, imp_self, or_true, true_or, or_false, false_or, and_self, ite_true, ite_false, if_true, if_false]
      exact hn rfl _ _ _ _ _ _ _
    | false =>
      cases sb with
      | true =>
        simp only [b_M_taxOf_229, b_M_taxOf_236, b_M_taxOf_243, h21, b32_1, b32_0, n32_10, ax_psh_none, ax_psh_some, true_and, and_true, and_false, false_and, not_true_eq_false, not_false_eq_true, true_imp_iff, false_imp_iff, imp_self, or_true, true_or, or_false, false_or, and_self, ite_true, ite_false, if_true, if_false]
        exact hn rfl _ _ _ _ _ _ _
      | false =>
        cases sp with
        | true =>
          cases spd
          · simp only [b_M_taxOf_229, b_M_taxOf_236, b_M_taxOf_243, b_M_taxOf_248, b_M_taxOf_253, b_M_taxOf_258, b_M_taxOf_263, h21, b32_1, b32_0, n32_10, ax_psh_none, ax_psh_some, true_and, and_true, and_false, false_and, not_true_eq_false, not_false_eq_true, true_imp_iff, false_imp_iff, imp_self, or_true, true_or, or_false, false_or, and_self, ite_true, ite_false, if_true, if_false]
            exact hs rfl rfl _ _ _ _ _ _ _
          · simp only [b_M_taxOf_229, b_M_taxOf_236, b_M_taxOf_243, b_M_taxOf_248, b_M_taxOf_258, b_M_taxOf_263, h21, b32_1, b32_0, n32_10, ax_psh_none, ax_psh_some, true_and, and_true, and_false, false_and, not_true_eq_false, not_false_eq_true, true_imp_iff, false_imp_iff, imp_self, or_true, true_or, or_false, false_or, and_self, ite_true, ite_false, if_true, if_false]
            exact hs rfl rfl _ _ _ _ _ _ _
        | false =>
          cases spd
          · simp only [b_M_taxOf_229, b_M_taxOf_236, b_M_taxOf_243, b_M_taxOf_248, b_M_taxOf_253, b_M_taxOf_262, b_M_taxOf_263, h21, b32_1, b32_0, n32_10, ax_psh_none, ax_psh_some, true_and, and_true, and_false, false_and, not_true_eq_false, not_false_eq_true, true_imp_iff, false_imp_iff, imp_self, or_true, true_or, or_false, false_or, and_self, ite_true, ite_false, if_true, if_false]
            exact clamp_l hx _ _ _ _ _ _ _ _ (fun o2 o6 => ht rfl rfl _ _ _ _ _ _ _) ⟨_, rfl⟩
          · simp only [b_M_taxOf_229, b_M_taxOf_236, b_M_taxOf_243, b_M_taxOf_248, b_M_taxOf_258, b_M_taxOf_263, h21, b32_1, b32_0, n32_10, ax_psh_none, ax_psh_some, true_and, and_true, and_false, false_and, not_true_eq_false, not_false_eq_true, true_imp_iff, false_imp_iff, imp_self, or_true, true_or, or_false, false_or, and_self, ite_true, ite_false, if_true, if_false]
            exact clamp_l hx _ _ _ _ _ _ _ _ (fun o2 o6 => ht rfl rfl _ _ _ _ _ _ _) ⟨_, rfl⟩
/-- what is told behind: nothing, if one spares -/
def taxS (l : List PC) (e : Nat → Int) (t : Nat) (spd : Bool) : Nat := if spd = true then 0 else taxL l e t
theorem taxS_n {C : PC} {l : List PC} {e : Nat → Int} {t : Nat} {spd : Bool} (h : clHolds C e = false) : taxS (C :: l) e t spd = taxS l e t spd := by
  cases spd
  · simp [taxS, taxL, h]
  · rfl
theorem taxS_s {C : PC} {l : List PC} {e : Nat → Int} {t : Nat} {spd : Bool} (h : clHolds C e = true) (hs : C.1 = true) : taxS (C :: l) e t spd = taxS l e t true := by
  cases spd
  · simp [taxS, taxL, h, hs]
  · rfl
theorem taxS_t {C : PC} {l : List PC} {e : Nat → Int} {t : Nat} {spd : Bool} {x : Int} (h : clHolds C e = true) (hs : C.1 = false) (hx : C.2.2.2.1 e = some x) : taxS (C :: l) e t spd = taxS l e (clamp x) spd := by
  cases spd
  · simp [taxS, taxL, h, hs, hx]
  · rfl
theorem pIf_inv {c v : Nat → Nat} {N : Nat} (hc : ∀ a, N ≤ a → c a = 0) {a p s a' p' : Nat} {sp : Bool} {k : List (Nat × Nat)} {m : (Nat → Int) → Option Int} {C : PC} (haN : a ≤ N) (hk : pIf c v sp s a p k m = .inr (a', p', C)) : a ≤ a' ∧ a' ≤ N ∧ C.1 = sp ∧ C.2.2.2.1 = m := by
  by_cases h3 : c a = 3
  · have haN1 := c_lt hc h3 (by decide)
    match hk1 : pTest c v 8 (a + 1) p (s + k.length) with
    | .inl f =>
      simp only [pIf, h3, if_true, hk1] at hk
      exact absurd hk (by simp)
    | .inr (a1, p1, k1, m1) =>
      simp only [pIf, h3, if_true, hk1, Sum.inr.injEq, Prod.mk.injEq] at hk
      obtain ⟨rfl, rfl, rfl⟩ := hk
      have q1 := ib_test v hc 8 _ _ _ _ _ _ _ haN1 hk1
      exact ⟨by omega, q1.2, rfl, rfl⟩
  · simp only [pIf, h3, if_false, Sum.inr.injEq, Prod.mk.injEq] at hk
    obtain ⟨rfl, rfl, rfl⟩ := hk
    exact ⟨Nat.le_refl _, haN, rfl, rfl⟩
theorem ev_if {c v : Nat → Nat} {N b d : Nat} {e : Nat → Int} {gi : GI} {g : AG} {Q : Option AV → AH → Prop} (hc : ∀ a, N ≤ a → c a = 0) (hd : 41 ≤ d + 2) (hG : GOK g) (hE : EC gi c v N b e) (a p s a' p' : Nat) (sp : Bool) (k : List (Nat × Nat)) (m : (Nat → Int) → Option Int) (C : PC) (hgo : gi 12 0 19 = n32 (b + a)) (haN : a ≤ N) (hk : pIf c v sp s a p k m = .inr (a', p', C)) (sb spd : Bool) (x : Int) (hx : Bd x) (hm : m e = if sb = true then none else some x) (told : Int32) (h21 : gi 12 0 21 = b32 sb) (o1 o2 o6 o7 o8 o9 : Option AV)
    (hn : clHolds C e = false → ∀ gi' o1 o2 o5 o6 o7 o8 o9, Fr evMod gi gi' → gi' 12 0 19 = n32 (b + a') → Runs (d + 2) (m_M_taxOf, 300, [some (.inr (.inr (some (12, 0)))), o1, o2, some (.inl told), some (.inl (b32 spd)), o5, o6, o7, o8, o9], []) (gi', g) Q)
    (hs : clHolds C e = true → sp = true → ∀ gi' o1 o2 o5 o6 o7 o8 o9, Fr evMod gi gi' → gi' 12 0 19 = n32 (b + a') → Runs (d + 2) (m_M_taxOf, 300, [some (.inr (.inr (some (12, 0)))), o1, o2, some (.inl told), some (.inl (b32 true)), o5, o6, o7, o8, o9], []) (gi', g) Q)
    (ht : clHolds C e = true → sp = false → ∀ gi' o1 o2 o5 o6 o7 o8 o9, Fr evMod gi gi' → gi' 12 0 19 = n32 (b + a') → Runs (d + 2) (m_M_taxOf, 300, [some (.inr (.inr (some (12, 0)))), o1, o2, some (.inl (n32 (clamp x))), some (.inl (b32 spd)), o5, o6, o7, o8, o9], []) (gi', g) Q) :
    Runs (d + 2) (m_M_taxOf, 195, [some (.inr (.inr (some (12, 0)))), o1, o2, some (.inl told), some (.inl (b32 spd)), some (.inl (b32 sp)), o6, o7, o8, o9], [.inr (.inl (lv x))]) (gi, g) Q := by
  have hN : N ≤ 400 := hE.1
  have fr0 : Fr evMod gi (ax_wI gi 12 0 21 (n32 0)) := Fr_wI (Fr_refl _ _) rfl
  have hE0 := EC_fr hE fr0
  have hgo0 : ax_wI gi 12 0 21 (n32 0) 12 0 19 = n32 (b + a) := by simp [wI_at, hgo]
  by_cases h3 : c a = 3
  · have haN1 := c_lt hc h3 (by decide)
    match hk1 : pTest c v 8 (a + 1) p (s + k.length) with
    | .inl f =>
      simp only [pIf, h3, if_true, hk1] at hk
      exact absurd hk (by simp)
    | .inr (a1, p1, k1, m1) =>
      simp only [pIf, h3, if_true, hk1, Sum.inr.injEq, Prod.mk.injEq] at hk
      obtain ⟨rfl, rfl, rfl⟩ := hk
      have q1 := ib_test v hc 8 _ _ _ _ _ _ _ haN1 hk1
      have hh : ∀ y, m1 e = some y → clHolds (sp, true, k ++ k1, m, m1) e = (y && !false && !sb) := by
        intro y hy
        unfold clHolds
        simp only [hm, hy]
        cases sb <;> cases y <;> rfl
      have hh0 : m1 e = none → clHolds (sp, true, k ++ k1, m, m1) e = false := by
        intro hy
        unfold clHolds
        simp only [hm, hy]
        cases sb <;> rfl
      have fr1 : Fr evMod gi (ax_wI (ax_wI gi 12 0 21 (n32 0)) 12 0 19 (n32 (b + (a + 1)))) := Fr_wI fr0 rfl
      simp only [b_M_taxOf_195, b_M_taxOf_213, b_M_taxOf_216, c_passes_y _ hG hE0 (by omega : a ≤ 1000) hgo0 (x := 3) h3, h21, n32_10, ax_psh_none, ax_psh_some, true_and, and_true, and_false, false_and, not_true_eq_false, not_false_eq_true, true_imp_iff, false_imp_iff, imp_self, or_true, true_or, or_false, false_or, and_self, ite_true, ite_false, if_true, if_false]
      apply ev_test v hc 8 (d + 2) b e _ g _ (a + 1) p (s + k.length) a1 p1 k1 m1 (by omega) hG (EC_fr hE fr1) (by simp [wI_at]) haN1 hk1 (by simp [wI_at])
      · intro y gi' hy fr hgo' h21'
        have fr' := Fr_trans fr1 fr
        have z : Runs (d + 2) (m_M_taxOf, 229, [some (.inr (.inr (some (12, 0)))), o1, o2, some (.inl told), some (.inl (b32 spd)), some (.inl (b32 sp)), some (.inr (.inl (lv x))), none, some (.inl (b32 sb)), o9], [.inl (b32 y)]) (gi', g) Q := by
          refine tax_end hx y false sb sp spd told h21' _ _ _ _ ?_ ?_ ?_
          · intro q o1 o2 o5 o6 o7 o8 o9
            exact hn ((hh y hy).trans q) gi' _ _ _ _ _ _ _ fr' hgo'
          · intro q q2 o1 o2 o5 o6 o7 o8 o9
            exact hs ((hh y hy).trans q) q2 gi' _ _ _ _ _ _ _ fr' hgo'
          · intro q q2 o1 o2 o5 o6 o7 o8 o9
            exact ht ((hh y hy).trans q) q2 gi' _ _ _ _ _ _ _ fr' hgo'
        cases y
        · simp only [b_M_taxOf_221, b_M_taxOf_228, b32_0, ax_psh_none, ax_psh_some, true_and, and_true, and_false, false_and, not_true_eq_false, not_false_eq_true, true_imp_iff, false_imp_iff, imp_self, or_true, true_or, or_false, false_or, and_self, ite_true, ite_false, if_true, if_false]
          exact z
        · simp only [b_M_taxOf_221, b_M_taxOf_224, b32_1, n32_10, ax_psh_none, ax_psh_some, true_and, and_true, and_false, false_and, not_true_eq_false, not_false_eq_true, true_imp_iff, false_imp_iff, imp_self, or_true, true_or, or_false, false_or, and_self, ite_true, ite_false, if_true, if_false]
          exact z
      · intro w gi' hy fr hgo' h21'
        have fr' := Fr_trans fr1 fr
        have z : Runs (d + 2) (m_M_taxOf, 229, [some (.inr (.inr (some (12, 0)))), o1, o2, some (.inl told), some (.inl (b32 spd)), some (.inl (b32 sp)), some (.inr (.inl (lv x))), none, some (.inl (b32 sb)), o9], [.inl (b32 w)]) (gi', g) Q := by
          refine tax_end hx w true sb sp spd told h21' _ _ _ _ ?_ ?_ ?_
          · intro q o1 o2 o5 o6 o7 o8 o9
            exact hn (hh0 hy) gi' _ _ _ _ _ _ _ fr' hgo'
          · intro q
            cases w <;> exact absurd q (by simp)
          · intro q
            cases w <;> exact absurd q (by simp)
        cases w
        · simp only [b_M_taxOf_221, b_M_taxOf_228, b32_0, ax_psh_none, ax_psh_some, true_and, and_true, and_false, false_and, not_true_eq_false, not_false_eq_true, true_imp_iff, false_imp_iff, imp_self, or_true, true_or, or_false, false_or, and_self, ite_true, ite_false, if_true, if_false]
          exact z
        · simp only [b_M_taxOf_221, b_M_taxOf_224, b32_1, n32_10, ax_psh_none, ax_psh_some, true_and, and_true, and_false, false_and, not_true_eq_false, not_false_eq_true, true_imp_iff, false_imp_iff, imp_self, or_true, true_or, or_false, false_or, and_self, ite_true, ite_false, if_true, if_false]
          exact z
  · simp only [pIf, h3, if_false, Sum.inr.injEq, Prod.mk.injEq] at hk
    obtain ⟨rfl, rfl, rfl⟩ := hk
    have hh : clHolds (sp, false, k, m, fun _ => some true) e = (true && !false && !sb) := by
      unfold clHolds
      simp only [hm]
      cases sb <;> rfl
    simp only [b_M_taxOf_195, b_M_taxOf_213, b_M_taxOf_224, c_passes_n _ hG hE0 (by omega : a ≤ 1000) hgo0 (x := 3) (by decide) h3, h21, ax_psh_none, ax_psh_some, true_and, and_true, and_false, false_and, not_true_eq_false, not_false_eq_true, true_imp_iff, false_imp_iff, imp_self, or_true, true_or, or_false, false_or, and_self, ite_true, ite_false, if_true, if_false]
    refine tax_end hx true false sb sp spd told (by simp [wI_at, b32]) _ _ _ _ ?_ ?_ ?_
    · intro q o1 o2 o5 o6 o7 o8 o9
      exact hn (hh.trans q) _ _ _ _ _ _ _ _ fr0 hgo0
    · intro q q2 o1 o2 o5 o6 o7 o8 o9
      exact hs (hh.trans q) q2 _ _ _ _ _ _ _ _ fr0 hgo0
    · intro q q2 o1 o2 o5 o6 o7 o8 o9
      exact ht (hh.trans q) q2 _ _ _ _ _ _ _ _ fr0 hgo0
theorem ev_law {c v : Nat → Nat} {N b d : Nat} {e : Nat → Int} {g : AG} {Q : Option AV → AH → Prop} (hc : ∀ a, N ≤ a → c a = 0) (hd : 41 ≤ d + 2) (hG : GOK g) : ∀ (n : Nat) (gi : GI) (a p s : Nat) (l : List PC) (t : Nat) (spd : Bool) (o1 o2 o5 o6 o7 o8 o9 : Option AV), EC gi c v N b e → gi 12 0 19 = n32 (b + a) → a ≤ N → pLaw c v N n a p s = .inr l →
    (∀ gi', Fr evMod gi gi' → Q (some (.inl (n32 (taxS l e t spd)))) (gi', g)) →
    Runs (d + 2) (m_M_taxOf, 136, [some (.inr (.inr (some (12, 0)))), o1, o2, some (.inl (n32 t)), some (.inl (b32 spd)), o5, o6, o7, o8, o9], []) (gi, g) Q := by
  intro n
  induction n with
  | zero =>
    intro gi a p s l t spd o1 o2 o5 o6 o7 o8 o9 hE hgo haN hk hq
    exact absurd hk (by simp [pLaw])
  | succ n ih =>
    intro gi a p s l t spd o1 o2 o5 o6 o7 o8 o9 hE hgo haN hk hq
    have hN : N ≤ 400 := hE.1
    have hb2 : b ≤ 2000 := hE.2.1
    have h20 : gi 12 0 20 = n32 (b + N) := hE.2.2.1
    match hk1 : pClause c v a p s with
    | .inl f =>
      rw [pLaw_f hk1] at hk
      exact absurd hk (by simp)
    | .inr (a1, p1, C) =>
      -- what comes behind the clause
      have tl : ∃ l2, l = C :: l2 ∧ ∀ (gi' : GI) (t' : Nat) (spd' : Bool) (o1 o2 o5 o6 o7 o8 o9 : Option AV), a1 ≤ N → Fr evMod gi gi' → gi' 12 0 19 = n32 (b + a1) → (∀ gi'', Fr evMod gi' gi'' → Q (some (.inl (n32 (taxS l2 e t' spd')))) (gi'', g)) → Runs (d + 2) (m_M_taxOf, 300, [some (.inr (.inr (some (12, 0)))), o1, o2, some (.inl (n32 t')), some (.inl (b32 spd')), o5, o6, o7, o8, o9], []) (gi', g) Q := by
        rw [pLaw_succ hk1] at hk
        unfold tailP at hk
        by_cases h1 : a1 = N
        · rw [if_pos h1] at hk
          simp only [consP, Sum.inr.injEq] at hk
          refine ⟨[], hk.symm, ?_⟩
          intro gi' t' spd' o1 o2 o5 o6 o7 o8 o9 _ fr hgo' hq'
          have e20 : ax_wI gi' 12 0 19 (n32 (b + (N + 1))) 12 0 20 = n32 (b + N) := by
            simp only [wI_at, ax_psh_none, ax_psh_some, true_and, and_true, and_false, false_and, not_true_eq_false, not_false_eq_true, true_imp_iff, false_imp_iff, imp_self, or_true, true_or, or_false, false_or, and_self, ite_true, ite_false, if_true, if_false, reduceIte, Nat.reduceEqDiff, Nat.reduceLT, Nat.reduceAdd, Nat.reduceMul, Nat.reduceSub, Nat.reduceDiv, Nat.reduceMod, Nat.reduceLeDiff]
            rw [fr 12 0 20 rfl, h20]
          have e19 : ax_wI gi' 12 0 19 (n32 (b + (N + 1))) 12 0 19 = n32 (b + (N + 1)) := by simp [wI_at]
          have hlt : ¬ b + (N + 1) < b + N := by omega
          have hq2 := hq' (ax_wI gi' 12 0 19 (n32 (b + (N + 1)))) (Fr_wI (Fr_refl _ _) rfl)
          rw [b_M_taxOf_300, hgo', h1, n32_add, Nat.add_assoc, b_M_taxOf_136, e19, e20]
          cases spd'
          · simp (disch := omega) only [hlt, b_M_taxOf_313, b_M_taxOf_322, b_M_taxOf_323, b32_0, n32_add, n32_mul, n32_lt, n32_le, n32_eq, n32_clamp, n32_inT, n32_div, n32_rem, n32_m1, n32_m1', n32_m1lt, n32_ltm1, n32_10, n32_01, Nat.not_lt_zero, Nat.lt_irrefl, Nat.mul_zero, Nat.zero_mul, Nat.zero_add, Nat.add_zero, Nat.reduceEqDiff, Nat.one_ne_zero, Nat.zero_ne_one, ax_psh_none, ax_psh_some, true_and, and_true, and_false, false_and, not_true_eq_false, not_false_eq_true, true_imp_iff, false_imp_iff, imp_self, or_true, true_or, or_false, false_or, and_self, ite_true, ite_false, if_true, if_false]
            exact hq2
          · simp (disch := omega) only [hlt, b_M_taxOf_313, b_M_taxOf_318, b_M_taxOf_323, b32_1, n32_add, n32_mul, n32_lt, n32_le, n32_eq, n32_clamp, n32_inT, n32_div, n32_rem, n32_m1, n32_m1', n32_m1lt, n32_ltm1, n32_10, n32_01, Nat.not_lt_zero, Nat.lt_irrefl, Nat.mul_zero, Nat.zero_mul, Nat.zero_add, Nat.add_zero, Nat.reduceEqDiff, Nat.one_ne_zero, Nat.zero_ne_one, ax_psh_none, ax_psh_some, true_and, and_true, and_false, false_and, not_true_eq_false, not_false_eq_true, true_imp_iff, false_imp_iff, imp_self, or_true, true_or, or_false, false_or, and_self, ite_true, ite_false, if_true, if_false]
            exact hq2
        · rw [if_neg h1] at hk
          by_cases h2 : c a1 = 159
          · rw [if_pos h2] at hk
            match hk2 : pLaw c v N n (a1 + 1) p1 (s + C.2.2.1.length) with
            | .inl f =>
              rw [hk2] at hk
              exact absurd hk (by simp [consP])
            | .inr l2 =>
              rw [hk2] at hk
              simp only [consP, Sum.inr.injEq] at hk
              refine ⟨l2, hk.symm, ?_⟩
              intro gi' t' spd' o1 o2 o5 o6 o7 o8 o9 haN1 fr hgo' hq'
              have fr2 : Fr evMod gi' (ax_wI gi' 12 0 19 (n32 (b + (a1 + 1)))) := Fr_wI (Fr_refl _ _) rfl
              rw [b_M_taxOf_300, hgo', n32_add, Nat.add_assoc]
              refine ih _ (a1 + 1) p1 _ l2 t' spd' _ _ _ _ _ _ _ (EC_fr hE (Fr_trans fr fr2)) (by simp [wI_at]) (c_lt hc h2 (by decide)) hk2 ?_
              intro gi'' fr3
              exact hq' gi'' (Fr_trans fr2 fr3)
          · rw [if_neg h2] at hk
            exact absurd hk (by simp [consP])
      obtain ⟨l2, rfl, nxt⟩ := tl
      have fr1 : Fr evMod gi (ax_wI (ax_wI gi 12 0 21 (n32 0)) 12 0 19 (n32 (b + (a + 1)))) := Fr_wI (Fr_wI (Fr_refl _ _) rfl) rfl
      have w19 : ax_wI gi 12 0 21 (n32 0) 12 0 19 = n32 (b + a) := by simp [wI_at, hgo]
      by_cases h2 : c a = 2
      · have haN1 := c_lt hc h2 (by decide)
        have hlt : b + a < b + N := by omega
        simp only [pClause, h2, if_true] at hk1
        obtain ⟨i1, i2, i3, i4⟩ := pIf_inv hc haN1 hk1
        rw [b_M_taxOf_136]
        simp (disch := omega) only [b_M_taxOf_147, b_M_taxOf_155, b_M_taxOf_159, b_M_taxOf_164, b_M_taxOf_186, hgo, h20, hlt, c_codeAt _ hG hE (by omega : a ≤ 1000), h2, w19, z64, n32_add, n32_mul, n32_lt, n32_le, n32_eq, n32_clamp, n32_inT, n32_div, n32_rem, n32_m1, n32_m1', n32_m1lt, n32_ltm1, n32_10, n32_01, Nat.not_lt_zero, Nat.lt_irrefl, Nat.mul_zero, Nat.zero_mul, Nat.zero_add, Nat.add_zero, Nat.reduceEqDiff, Nat.one_ne_zero, Nat.zero_ne_one, ax_psh_none, ax_psh_some, true_and, and_true, and_false, false_and, not_true_eq_false, not_false_eq_true, true_imp_iff, false_imp_iff, imp_self, or_true, true_or, or_false, false_or, and_self, ite_true, ite_false, if_true, if_false, Nat.add_assoc]
        refine ev_if hc hd hG (EC_fr hE fr1) (a + 1) p s a1 p1 true [] (fun _ => some 0) C (by simp [wI_at]) haN1 hk1 false spd 0 Bd0 rfl (n32 t) (by simp [wI_at, b32]) _ _ _ _ _ _ ?_ ?_ ?_
        · intro hh gi' o1 o2 o5 o6 o7 o8 o9 fr hgo'
          refine nxt gi' t spd _ _ _ _ _ _ _ i2 (Fr_trans fr1 fr) hgo' (fun gi'' fr3 => ?_)
          have := hq gi'' (Fr_trans fr1 (Fr_trans fr fr3))
          rw [taxS_n hh] at this
          exact this
        · intro hh _ gi' o1 o2 o5 o6 o7 o8 o9 fr hgo'
          refine nxt gi' t true _ _ _ _ _ _ _ i2 (Fr_trans fr1 fr) hgo' (fun gi'' fr3 => ?_)
          have := hq gi'' (Fr_trans fr1 (Fr_trans fr fr3))
          rw [taxS_s hh i3] at this
          exact this
        · intro _ hs
          exact absurd hs (by decide)
      · by_cases h1 : c a = 1
        · have haN1 := c_lt hc h1 (by decide)
          have hlt : b + a < b + N := by omega
          match hk2 : pSum c v 8 (a + 1) p s with
          | .inl f =>
            simp [pClause, h1, hk2] at hk1
          | .inr (a2, p2, k2, m2) =>
            simp only [pClause, h2, if_false, h1, if_true, hk2] at hk1
            have q2 := ib_sum v hc 8 _ _ _ _ _ _ _ haN1 hk2
            obtain ⟨i1, i2, i3, i4⟩ := pIf_inv hc q2.2 hk1
            have go2 : ∀ (gi2 : GI) (sb : Bool) (x : Int) (o6 : Option AV), Bd x → m2 e = (if sb = true then none else some x) → Fr evMod gi gi2 → gi2 12 0 19 = n32 (b + a2) → gi2 12 0 21 = b32 sb → Runs (d + 2) (m_M_taxOf, 195, [some (.inr (.inr (some (12, 0)))), o1, o2, some (.inl (n32 t)), some (.inl (b32 spd)), some (.inl (b32 false)), o6, o7, o8, o9], [.inr (.inl (lv x))]) (gi2, g) Q := by
              intro gi2 sb x o6 bx hm fr hgo2 h212
              refine ev_if hc hd hG (EC_fr hE fr) a2 p2 s a1 p1 false k2 m2 C hgo2 q2.2 hk1 sb spd x bx hm (n32 t) h212 _ _ _ _ _ _ ?_ ?_ ?_
              · intro hh gi' o1 o2 o5 o6 o7 o8 o9 fr' hgo'
                refine nxt gi' t spd _ _ _ _ _ _ _ i2 (Fr_trans fr fr') hgo' (fun gi'' fr3 => ?_)
                have := hq gi'' (Fr_trans fr (Fr_trans fr' fr3))
                rw [taxS_n hh] at this
                exact this
              · intro _ hs
                exact absurd hs (by decide)
              · intro hh _ gi' o1 o2 o5 o6 o7 o8 o9 fr' hgo'
                have hx2 : C.2.2.2.1 e = some x := by
                  rw [i4, hm]
                  cases sb
                  · rfl
                  · exfalso
                    unfold clHolds at hh
                    rw [i4, hm] at hh
                    exact absurd hh (by simp)
                refine nxt gi' (clamp x) spd _ _ _ _ _ _ _ i2 (Fr_trans fr fr') hgo' (fun gi'' fr3 => ?_)
                have := hq gi'' (Fr_trans fr (Fr_trans fr' fr3))
                rw [taxS_t hh i3 hx2] at this
                exact this
            rw [b_M_taxOf_136]
            simp (disch := omega) only [b_M_taxOf_147, b_M_taxOf_155, b_M_taxOf_163, b_M_taxOf_164, b_M_taxOf_190, hgo, h20, hlt, c_codeAt _ hG hE (by omega : a ≤ 1000), h1, w19, n32_add, n32_mul, n32_lt, n32_le, n32_eq, n32_clamp, n32_inT, n32_div, n32_rem, n32_m1, n32_m1', n32_m1lt, n32_ltm1, n32_10, n32_01, Nat.not_lt_zero, Nat.lt_irrefl, Nat.mul_zero, Nat.zero_mul, Nat.zero_add, Nat.add_zero, Nat.reduceEqDiff, Nat.one_ne_zero, Nat.zero_ne_one, ax_psh_none, ax_psh_some, true_and, and_true, and_false, false_and, not_true_eq_false, not_false_eq_true, true_imp_iff, false_imp_iff, imp_self, or_true, true_or, or_false, false_or, and_self, ite_true, ite_false, if_true, if_false, Nat.add_assoc]
            apply (ev_sum v hc 8).2 (d + 2) b e _ g _ (a + 1) p s a2 p2 k2 m2 (by omega) hG (EC_fr hE fr1) (by simp [wI_at]) haN1 hk2 (by simp [wI_at])
            · intro x gi2 hx bx fr hgo2 h212
              simp only [ax_psh_none, ax_psh_some, true_and, and_true, and_false, false_and, not_true_eq_false, not_false_eq_true, true_imp_iff, false_imp_iff, imp_self, or_true, true_or, or_false, false_or, and_self, ite_true, ite_false, if_true, if_false]
              exact go2 gi2 false x _ bx hx (Fr_trans fr1 fr) hgo2 h212
            · intro gi2 hx fr hgo2 h212
              simp only [ax_psh_none, ax_psh_some, true_and, and_true, and_false, false_and, not_true_eq_false, not_false_eq_true, true_imp_iff, false_imp_iff, imp_self, or_true, true_or, or_false, false_or, and_self, ite_true, ite_false, if_true, if_false]
              exact go2 gi2 true 0 _ Bd0 hx (Fr_trans fr1 fr) hgo2 h212
        · simp only [pClause, h1, h2, if_false] at hk1
          exact absurd hk1 (by simp)
