/-! things by what is kept; papers of all; who is asked -/
def cl (x : Int32) : Nat := x.toNatClampNeg
theorem cl_n {k : Nat} (h : k < 2147483648) : cl (n32 k) = k := n32_clamp h
def Wk (K : Nat → Int32) (t : Nat) : Nat := cl (K (132 * t))
def Tk (K : Nat → Int32) (t : Nat) : Nat := cl (K (132 * t + 1))
def Ok (K : Nat → Int32) (t : Nat) : Nat := cl (K (132 * t + 2))
def bk (K : Nat → Int32) (t c : Nat) : Nat := cl (K (132 * t + (4 + c)))
def hk (K : Nat → Int32) (t c : Nat) : Nat := cl (K (132 * t + (68 + c)))
theorem sumN_hk {f g : Nat → Nat} {n : Nat} (h : ∀ i, i < n → f i = g i) : sumN f n = sumN g n := sumN_congr h
theorem thing_k {gi : GI} {n t : Nat} (h : ThingsR gi 0 n (gi 64 0)) (ht : t < n) : ThV gi t (Wk (gi 64 0) t) (Tk (gi 64 0) t) (Ok (gi 64 0) t) (bk (gi 64 0) t) (hk (gi 64 0) t) (gi 64 0 (132 * t + 3)) := by
  obtain ⟨W, T, O, b, hh, pl, hc, hm, hO, hpl, hpl2, hh', hs⟩ := thing_v h ht
  have eW : Wk (gi 64 0) t = W := by unfold Wk; rw [hm.1, cl_n (by have := hc.2.2.2.1; omega)]
  have eT : Tk (gi 64 0) t = T := by unfold Tk; rw [hm.2.1, cl_n (by have := hc.2.2.2.2.1; omega)]
  have eO : Ok (gi 64 0) t = O := by unfold Ok; rw [hm.2.2.1, cl_n (by omega)]
  have eb : ∀ c, c < 64 → bk (gi 64 0) t c = b c := fun c hc' => by
    have := hm.2.2.2.2.2 c hc'
    unfold bk
    rw [this.1, cl_n (by omega)]
  have eh : ∀ c, c < 64 → hk (gi 64 0) t c = hh c := fun c hc' => by
    have := hh' c hc'
    unfold hk
    rw [this.2.1, cl_n (by omega)]
  have h64 := wt64 hc.2.2.2.1.2 hc.2.2.2.2.1.2
  rw [eW, eT, eO]
  refine ⟨⟨hc.1, hc.2.1, hc.2.2.1, hc.2.2.2.1, hc.2.2.2.2.1, fun c hc' => ?_⟩, ⟨hm.1, hm.2.1, hm.2.2.1, hm.2.2.2.1, hm.2.2.2.2.1, fun c hc' => ?_⟩, hO, ⟨hpl.1.trans hpl.2.symm, rfl⟩, by rw [hpl.2]; exact hpl2, fun c hc' => ?_, ?_⟩
  · rw [eb c hc']
    exact hc.2.2.2.2.2 c hc'
  · rw [eb c hc']
    exact hm.2.2.2.2.2 c hc'
  · rw [eh c hc']
    exact hh' c hc'
  · rw [sumN_congr (g := hh) (fun i hi => eh i (by omega))]
    exact hs
def PapK (gi : GI) (K : Nat → Int32) (t : Nat) : Prop := Pap gi t (Wk K t) (Tk K t) (Ok K t) (bk K t)
/-- only papers below n are touched -/
def OnlyPs (n : Nat) (gi gi' : GI) : Prop := ∀ s a j, ¬ (s = 3 ∧ a < n) → ¬ ((s = 54 ∨ s = 55 ∨ s = 56 ∨ s = 57) ∧ a < n) → ¬ (s = 59 ∧ a < 8 * n) → gi' s a j = gi s a j
theorem OnlyP_s {t n : Nat} {gi gi' : GI} (h : OnlyP t gi gi') (ht : t < n) : OnlyPs n gi gi' := fun s a j q1 q2 q3 => h s a j (by omega) (by omega) (by omega)
theorem qMod_Ps {gi gi' : GI} {n : Nat} (h : OnlyPs n gi gi') : Fr qMod gi gi' := fun s a j q => h s a j (fun z => by rw [z.1] at q; exact absurd q (by simp [qMod])) (fun z => by rcases z.1 with rfl | rfl | rfl | rfl <;> exact absurd q (by simp [qMod])) (fun z => by rw [z.1] at q; exact absurd q (by simp [qMod]))
theorem Pap_P {gi gi' : GI} {t t' W T O : Nat} {b : Nat → Nat} (h : Pap gi t' W T O b) (ho : OnlyP t gi gi') (hne : t' ≠ t) : Pap gi' t' W T O b := by
  obtain ⟨⟨p0, p1, p4, pW, pT, pw⟩, h2, h3, h54, hb, h55, h56⟩ := h
  exact ⟨⟨(ho 3 t' 0 (by omega) (by omega) (by omega)).trans p0, (ho 3 t' 1 (by omega) (by omega) (by omega)).trans p1, (ho 3 t' 4 (by omega) (by omega) (by omega)).trans p4, pW, pT, fun f hf c hc => (ho 59 _ c (by omega) (by omega) (by omega)).trans (pw f hf c hc)⟩, (ho 3 t' 2 (by omega) (by omega) (by omega)).trans h2, (ho 3 t' 3 (by omega) (by omega) (by omega)).trans h3, fun c hc => (ho 54 t' c (by omega) (by omega) (by omega)).trans (h54 c hc), hb, fun l hl => (ho 55 t' l (by omega) (by omega) (by omega)).trans (h55 l hl), fun p hp => (ho 56 t' p (by omega) (by omega) (by omega)).trans (h56 p hp)⟩
theorem PaperInv_P {gi gi' : GI} {t t' : Nat} (h : PaperInv gi t') (ho : OnlyP t gi gi') (hne : t' ≠ t) : PaperInv gi' t' := by
  rcases h with ⟨a, b⟩ | ⟨W, T, p0, p1, p4, pW, pT, pw⟩
  · exact Or.inl ⟨(ho 3 t' 0 (by omega) (by omega) (by omega)).trans a, (ho 3 t' 1 (by omega) (by omega) (by omega)).trans b⟩
  · exact Or.inr ⟨W, T, (ho 3 t' 0 (by omega) (by omega) (by omega)).trans p0, (ho 3 t' 1 (by omega) (by omega) (by omega)).trans p1, (ho 3 t' 4 (by omega) (by omega) (by omega)).trans p4, pW, pT, fun f hf c hc => (ho 59 _ c (by omega) (by omega) (by omega)).trans (pw f hf c hc)⟩
theorem PaperInv_q {gi gi' : GI} {t : Nat} (h : PaperInv gi t) (h3 : ∀ j, gi' 3 t j = gi 3 t j) (h59 : ∀ a j, gi' 59 a j = gi 59 a j) : PaperInv gi' t := PaperInv_of h h3 h59
theorem c_paperOf {d t nt : Nat} {gi : GI} {g : AG} {Q : Option AV → AH → Prop} (hG : GOK g) (b1 : gi 1 0 1 = n32 nt) (n6 : nt ≤ 6) (hTh : ThingsR gi 0 nt (gi 64 0)) (hPI : ∀ t, t < 6 → PaperInv gi t) (ht : t < nt)
    (hq : ∀ gi', OnlyP t gi gi' → PapK gi' (gi 64 0) t → Q (some (.inr (.inr (some (3, t))))) (gi', g)) :
    ax_call (d + 5) m_S_paperOf [.inr (.inr (some (0, 0))), .inl (n32 t)] (gi, g) Q := by
  have hv := thing_k hTh ht
  rw [e_S_paperOf]
  simp (disch := omega) only [b_S_paperOf_0, b_S_paperOf_8b, b_S_paperOf_15, G_0_0 hG, G_0_1 hG, G_0_2 hG, G_0_3 hG, G_0_7 hG, G_0_10 hG, G_0_12 hG, G_0_13 hG, G_0_14 hG, G_0_15 hG, G_0_16 hG, G_0_17 hG, G_1_0 hG, G_1_2 hG, G_1_5 hG, G_2_4 hG, G_2_5 hG, G_3_5 hG, G_3_6 hG, G_3_7 hG, G_3_8 hG, G_3_9 hG, G_5_0 hG, G_5_1 hG, G_6_0 hG, G_6_1 hG, G_6_2 hG, G_6_9 hG, G_6_10 hG, G_6_11 hG, G_6_12 hG, G_6_13 hG, G_7_0 hG, G_7_5 hG, G_8_8 hG, G_8_9 hG, G_9_8 hG, G_9_9 hG, G_10_7 hG, G_10_8 hG, G_10_9 hG, G_10_10 hG, G_10_11 hG, G_11_0 hG, G_12_2 hG, G_12_3 hG, G_12_4 hG, G_12_5 hG, G_12_7 hG, G_12_8 hG, G_12_9 hG, G_12_12 hG, G_12_13 hG, G_12_14 hG, G_12_22 hG, G_12_23 hG, G_12_29 hG, G_12_30 hG, G_12_31 hG, G_12_37 hG, G_12_38 hG, G_12_39 hG, G_12_40 hG, G_12_41 hG, G_12_43 hG, G_12_46 hG, G_12_47 hG, G_12_48 hG, G_25 hG, G_26 hG, G_47 hG, G_58 hG, c_Books_thingAt _ _ _ _ hG b1 n6 ht, n32_add, n32_mul, n32_lt, n32_le, n32_eq, n32_clamp, n32_inT, n32_div, n32_rem, n32_m1, n32_m1', n32_m1lt, n32_ltm1, n32_10, n32_01, Nat.not_lt_zero, Nat.lt_irrefl, Nat.mul_zero, Nat.zero_mul, Nat.zero_add, Nat.add_zero, Nat.reduceEqDiff, Nat.one_ne_zero, Nat.zero_ne_one, ax_psh_none, ax_psh_some, true_and, and_true, and_false, false_and, not_true_eq_false, not_false_eq_true, true_imp_iff, false_imp_iff, imp_self, or_true, true_or, or_false, false_or, and_self, ite_true, ite_false, if_true, if_false]
  refine c_Paper_copy (d := d) hG (by omega) (hPI t (by omega)) hv.1 ?_
  intro gi' ho hp
  simp (disch := omega) only [b_S_paperOf_25, G_0_0 hG, G_0_1 hG, G_0_2 hG, G_0_3 hG, G_0_7 hG, G_0_10 hG, G_0_12 hG, G_0_13 hG, G_0_14 hG, G_0_15 hG, G_0_16 hG, G_0_17 hG, G_1_0 hG, G_1_2 hG, G_1_5 hG, G_2_4 hG, G_2_5 hG, G_3_5 hG, G_3_6 hG, G_3_7 hG, G_3_8 hG, G_3_9 hG, G_5_0 hG, G_5_1 hG, G_6_0 hG, G_6_1 hG, G_6_2 hG, G_6_9 hG, G_6_10 hG, G_6_11 hG, G_6_12 hG, G_6_13 hG, G_7_0 hG, G_7_5 hG, G_8_8 hG, G_8_9 hG, G_9_8 hG, G_9_9 hG, G_10_7 hG, G_10_8 hG, G_10_9 hG, G_10_10 hG, G_10_11 hG, G_11_0 hG, G_12_2 hG, G_12_3 hG, G_12_4 hG, G_12_5 hG, G_12_7 hG, G_12_8 hG, G_12_9 hG, G_12_12 hG, G_12_13 hG, G_12_14 hG, G_12_22 hG, G_12_23 hG, G_12_29 hG, G_12_30 hG, G_12_31 hG, G_12_37 hG, G_12_38 hG, G_12_39 hG, G_12_40 hG, G_12_41 hG, G_12_43 hG, G_12_46 hG, G_12_47 hG, G_12_48 hG, G_25 hG, G_26 hG, G_47 hG, G_58 hG, n32_add, n32_mul, n32_lt, n32_le, n32_eq, n32_clamp, n32_inT, n32_div, n32_rem, n32_m1, n32_m1', n32_m1lt, n32_ltm1, n32_10, n32_01, Nat.not_lt_zero, Nat.lt_irrefl, Nat.mul_zero, Nat.zero_mul, Nat.zero_add, Nat.add_zero, Nat.reduceEqDiff, Nat.one_ne_zero, Nat.zero_ne_one, ax_psh_none, ax_psh_some, true_and, and_true, and_false, false_and, not_true_eq_false, not_false_eq_true, true_imp_iff, false_imp_iff, imp_self, or_true, true_or, or_false, false_or, and_self, ite_true, ite_false, if_true, if_false]
  exact hq gi' ho hp
theorem c_paperOf_n (d : Nat) (gi : GI) (g : AG) (Q : Option AV → AH → Prop) {nt : Nat} {v : Int32} (hG : GOK g) (b1 : gi 1 0 1 = n32 nt) (hw : win v (n32 0) (n32 nt - n32 1) = n32 0) : ax_call (d + 5) m_S_paperOf [.inr (.inr (some (0, 0))), .inl v] (gi, g) Q = Q (some (.inr (.inr none))) (gi, g) := by
  rw [e_S_paperOf]
  simp (disch := omega) only [b_S_paperOf_0, b_S_paperOf_8a, b_S_paperOf_13, G_0_0 hG, G_0_1 hG, G_0_2 hG, G_0_3 hG, G_0_7 hG, G_0_10 hG, G_0_12 hG, G_0_13 hG, G_0_14 hG, G_0_15 hG, G_0_16 hG, G_0_17 hG, G_1_0 hG, G_1_2 hG, G_1_5 hG, G_2_4 hG, G_2_5 hG, G_3_5 hG, G_3_6 hG, G_3_7 hG, G_3_8 hG, G_3_9 hG, G_5_0 hG, G_5_1 hG, G_6_0 hG, G_6_1 hG, G_6_2 hG, G_6_9 hG, G_6_10 hG, G_6_11 hG, G_6_12 hG, G_6_13 hG, G_7_0 hG, G_7_5 hG, G_8_8 hG, G_8_9 hG, G_9_8 hG, G_9_9 hG, G_10_7 hG, G_10_8 hG, G_10_9 hG, G_10_10 hG, G_10_11 hG, G_11_0 hG, G_12_2 hG, G_12_3 hG, G_12_4 hG, G_12_5 hG, G_12_7 hG, G_12_8 hG, G_12_9 hG, G_12_12 hG, G_12_13 hG, G_12_14 hG, G_12_22 hG, G_12_23 hG, G_12_29 hG, G_12_30 hG, G_12_31 hG, G_12_37 hG, G_12_38 hG, G_12_39 hG, G_12_40 hG, G_12_41 hG, G_12_43 hG, G_12_46 hG, G_12_47 hG, G_12_48 hG, G_25 hG, G_26 hG, G_47 hG, G_58 hG, c_Books_thingAt_n _ _ _ _ hG b1 hw, n32_add, n32_mul, n32_lt, n32_le, n32_eq, n32_clamp, n32_inT, n32_div, n32_rem, n32_m1, n32_m1', n32_m1lt, n32_ltm1, n32_10, n32_01, Nat.not_lt_zero, Nat.lt_irrefl, Nat.mul_zero, Nat.zero_mul, Nat.zero_add, Nat.add_zero, Nat.reduceEqDiff, Nat.one_ne_zero, Nat.zero_ne_one, ax_psh_none, ax_psh_some, true_and, and_true, and_false, false_and, not_true_eq_false, not_false_eq_true, true_imp_iff, false_imp_iff, imp_self, or_true, true_or, or_false, false_or, and_self, ite_true, ite_false, if_true, if_false]
theorem c_fits (d : Nat) (gi : GI) (g : AG) (Q : Option AV → AH → Prop) {t W T O : Nat} {b : Nat → Nat} (h : ThC gi t W T O b) (v : Int32) : ax_call (d + 2) m_S_fits [.inr (.inr (some (2, t))), .inl v] (gi, g) Q = Q (some (.inl (win v (n32 0) (n32 (likes W T) - n32 1)))) (gi, g) := by
  rw [e_S_fits]
  rcases win_01 v (n32 0) (n32 (likes W T) - n32 1) with z | z <;> simp only [b_S_fits_0, b_S_fits_13, b_S_fits_18, h.1, h.2.1, c_S_likenessesOf _ _ _ _ W T h.2.2.2.1.2 h.2.2.2.2.1.2, c_S_within, z, ax_psh_none, ax_psh_some, true_and, and_true, and_false, false_and, not_true_eq_false, not_false_eq_true, true_imp_iff, false_imp_iff, imp_self, or_true, true_or, or_false, false_or, and_self, ite_true, ite_false, if_true, if_false]
theorem c_paperFor {d t nt l : Nat} {gi : GI} {g : AG} {Q : Option AV → AH → Prop} (hG : GOK g) (b1 : gi 1 0 1 = n32 nt) (n6 : nt ≤ 6) (hTh : ThingsR gi 0 nt (gi 64 0)) (hPI : ∀ t, t < 6 → PaperInv gi t) (ht : t < nt) (hl : l < likes (Wk (gi 64 0) t) (Tk (gi 64 0) t))
    (hq : ∀ gi', OnlyP t gi gi' → PapK gi' (gi 64 0) t → Q (some (.inr (.inr (some (3, t))))) (gi', g)) :
    ax_call (d + 6) m_S_paperFor [.inr (.inr (some (0, 0))), .inl (n32 t), .inl (n32 l)] (gi, g) Q := by
  have hv := thing_k hTh ht
  have lk := likes_36 (Wk (gi 64 0) t) (Tk (gi 64 0) t)
  rw [e_S_paperFor]
  simp (disch := omega) only [b_S_paperFor_0, b_S_paperFor_8b, b_S_paperFor_13, b_S_paperFor_18, b_S_paperFor_21, G_0_0 hG, G_0_1 hG, G_0_2 hG, G_0_3 hG, G_0_7 hG, G_0_10 hG, G_0_12 hG, G_0_13 hG, G_0_14 hG, G_0_15 hG, G_0_16 hG, G_0_17 hG, G_1_0 hG, G_1_2 hG, G_1_5 hG, G_2_4 hG, G_2_5 hG, G_3_5 hG, G_3_6 hG, G_3_7 hG, G_3_8 hG, G_3_9 hG, G_5_0 hG, G_5_1 hG, G_6_0 hG, G_6_1 hG, G_6_2 hG, G_6_9 hG, G_6_10 hG, G_6_11 hG, G_6_12 hG, G_6_13 hG, G_7_0 hG, G_7_5 hG, G_8_8 hG, G_8_9 hG, G_9_8 hG, G_9_9 hG, G_10_7 hG, G_10_8 hG, G_10_9 hG, G_10_10 hG, G_10_11 hG, G_11_0 hG, G_12_2 hG, G_12_3 hG, G_12_4 hG, G_12_5 hG, G_12_7 hG, G_12_8 hG, G_12_9 hG, G_12_12 hG, G_12_13 hG, G_12_14 hG, G_12_22 hG, G_12_23 hG, G_12_29 hG, G_12_30 hG, G_12_31 hG, G_12_37 hG, G_12_38 hG, G_12_39 hG, G_12_40 hG, G_12_41 hG, G_12_43 hG, G_12_46 hG, G_12_47 hG, G_12_48 hG, G_25 hG, G_26 hG, G_47 hG, G_58 hG, c_Books_thingAt _ _ _ _ hG b1 n6 ht, c_fits _ _ _ _ hv.1, win_syes hl (by omega), n32_add, n32_mul, n32_lt, n32_le, n32_eq, n32_clamp, n32_inT, n32_div, n32_rem, n32_m1, n32_m1', n32_m1lt, n32_ltm1, n32_10, n32_01, Nat.not_lt_zero, Nat.lt_irrefl, Nat.mul_zero, Nat.zero_mul, Nat.zero_add, Nat.add_zero, Nat.reduceEqDiff, Nat.one_ne_zero, Nat.zero_ne_one, ax_psh_none, ax_psh_some, true_and, and_true, and_false, false_and, not_true_eq_false, not_false_eq_true, true_imp_iff, false_imp_iff, imp_self, or_true, true_or, or_false, false_or, and_self, ite_true, ite_false, if_true, if_false]
  refine c_paperOf (d := d) hG b1 n6 hTh hPI ht ?_
  intro gi' ho hp
  simp only [b_S_paperFor_26b, b_S_paperFor_30b, ax_psh_none, ax_psh_some, true_and, and_true, and_false, false_and, not_true_eq_false, not_false_eq_true, true_imp_iff, false_imp_iff, imp_self, or_true, true_or, or_false, false_or, and_self, ite_true, ite_false, if_true, if_false]
  exact hq gi' ho hp
theorem c_paperFor_n (d : Nat) (gi : GI) (g : AG) (Q : Option AV → AH → Prop) {nt : Nat} {v x : Int32} (hG : GOK g) (b1 : gi 1 0 1 = n32 nt) (hw : win v (n32 0) (n32 nt - n32 1) = n32 0) : ax_call (d + 6) m_S_paperFor [.inr (.inr (some (0, 0))), .inl v, .inl x] (gi, g) Q = Q (some (.inr (.inr none))) (gi, g) := by
  rw [e_S_paperFor]
  simp (disch := omega) only [b_S_paperFor_0, b_S_paperFor_8a, b_S_paperFor_29, b_S_paperFor_30a, G_0_0 hG, G_0_1 hG, G_0_2 hG, G_0_3 hG, G_0_7 hG, G_0_10 hG, G_0_12 hG, G_0_13 hG, G_0_14 hG, G_0_15 hG, G_0_16 hG, G_0_17 hG, G_1_0 hG, G_1_2 hG, G_1_5 hG, G_2_4 hG, G_2_5 hG, G_3_5 hG, G_3_6 hG, G_3_7 hG, G_3_8 hG, G_3_9 hG, G_5_0 hG, G_5_1 hG, G_6_0 hG, G_6_1 hG, G_6_2 hG, G_6_9 hG, G_6_10 hG, G_6_11 hG, G_6_12 hG, G_6_13 hG, G_7_0 hG, G_7_5 hG, G_8_8 hG, G_8_9 hG, G_9_8 hG, G_9_9 hG, G_10_7 hG, G_10_8 hG, G_10_9 hG, G_10_10 hG, G_10_11 hG, G_11_0 hG, G_12_2 hG, G_12_3 hG, G_12_4 hG, G_12_5 hG, G_12_7 hG, G_12_8 hG, G_12_9 hG, G_12_12 hG, G_12_13 hG, G_12_14 hG, G_12_22 hG, G_12_23 hG, G_12_29 hG, G_12_30 hG, G_12_31 hG, G_12_37 hG, G_12_38 hG, G_12_39 hG, G_12_40 hG, G_12_41 hG, G_12_43 hG, G_12_46 hG, G_12_47 hG, G_12_48 hG, G_25 hG, G_26 hG, G_47 hG, G_58 hG, c_Books_thingAt_n _ _ _ _ hG b1 hw, n32_add, n32_mul, n32_lt, n32_le, n32_eq, n32_clamp, n32_inT, n32_div, n32_rem, n32_m1, n32_m1', n32_m1lt, n32_ltm1, n32_10, n32_01, Nat.not_lt_zero, Nat.lt_irrefl, Nat.mul_zero, Nat.zero_mul, Nat.zero_add, Nat.add_zero, Nat.reduceEqDiff, Nat.one_ne_zero, Nat.zero_ne_one, ax_psh_none, ax_psh_some, true_and, and_true, and_false, false_and, not_true_eq_false, not_false_eq_true, true_imp_iff, false_imp_iff, imp_self, or_true, true_or, or_false, false_or, and_self, ite_true, ite_false, if_true, if_false]
theorem c_paperFor_l (d : Nat) {gi : GI} {g : AG} {Q : Option AV → AH → Prop} (hG : GOK g) {t nt : Nat} {x : Int32} (b1 : gi 1 0 1 = n32 nt) (n6 : nt ≤ 6) (hTh : ThingsR gi 0 nt (gi 64 0)) (ht : t < nt) (hl : win x (n32 0) (n32 (likes (Wk (gi 64 0) t) (Tk (gi 64 0) t)) - n32 1) = n32 0) : ax_call (d + 6) m_S_paperFor [.inr (.inr (some (0, 0))), .inl (n32 t), .inl x] (gi, g) Q = Q (some (.inr (.inr none))) (gi, g) := by
  have hv := thing_k hTh ht
  rw [e_S_paperFor]
  simp (disch := omega) only [b_S_paperFor_0, b_S_paperFor_8b, b_S_paperFor_13, b_S_paperFor_18, b_S_paperFor_29, b_S_paperFor_30a, G_0_0 hG, G_0_1 hG, G_0_2 hG, G_0_3 hG, G_0_7 hG, G_0_10 hG, G_0_12 hG, G_0_13 hG, G_0_14 hG, G_0_15 hG, G_0_16 hG, G_0_17 hG, G_1_0 hG, G_1_2 hG, G_1_5 hG, G_2_4 hG, G_2_5 hG, G_3_5 hG, G_3_6 hG, G_3_7 hG, G_3_8 hG, G_3_9 hG, G_5_0 hG, G_5_1 hG, G_6_0 hG, G_6_1 hG, G_6_2 hG, G_6_9 hG, G_6_10 hG, G_6_11 hG, G_6_12 hG, G_6_13 hG, G_7_0 hG, G_7_5 hG, G_8_8 hG, G_8_9 hG, G_9_8 hG, G_9_9 hG, G_10_7 hG, G_10_8 hG, G_10_9 hG, G_10_10 hG, G_10_11 hG, G_11_0 hG, G_12_2 hG, G_12_3 hG, G_12_4 hG, G_12_5 hG, G_12_7 hG, G_12_8 hG, G_12_9 hG, G_12_12 hG, G_12_13 hG, G_12_14 hG, G_12_22 hG, G_12_23 hG, G_12_29 hG, G_12_30 hG, G_12_31 hG, G_12_37 hG, G_12_38 hG, G_12_39 hG, G_12_40 hG, G_12_41 hG, G_12_43 hG, G_12_46 hG, G_12_47 hG, G_12_48 hG, G_25 hG, G_26 hG, G_47 hG, G_58 hG, c_Books_thingAt _ _ _ _ hG b1 n6 ht, c_fits _ _ _ _ hv.1, hl, n32_add, n32_mul, n32_lt, n32_le, n32_eq, n32_clamp, n32_inT, n32_div, n32_rem, n32_m1, n32_m1', n32_m1lt, n32_ltm1, n32_10, n32_01, Nat.not_lt_zero, Nat.lt_irrefl, Nat.mul_zero, Nat.zero_mul, Nat.zero_add, Nat.add_zero, Nat.reduceEqDiff, Nat.one_ne_zero, Nat.zero_ne_one, ax_psh_none, ax_psh_some, true_and, and_true, and_false, false_and, not_true_eq_false, not_false_eq_true, true_imp_iff, false_imp_iff, imp_self, or_true, true_or, or_false, false_or, and_self, ite_true, ite_false, if_true, if_false]
theorem ThingsR_q {gi gi' : GI} {n : Nat} (h : ThingsR gi 0 n (gi 64 0)) (hn : n ≤ 6) (hf : Fr qMod gi gi') : ThingsR gi' 0 n (gi' 64 0) := ThingsR_of h hn (fun j _ => hf 64 0 j rfl) (fun s a j q => by rcases q with rfl | rfl | rfl <;> exact hf _ _ _ rfl)
theorem K_q {gi gi' : GI} (hf : Fr qMod gi gi') : gi' 64 0 = gi 64 0 := funext (fun j => hf 64 0 j rfl)
theorem c_layOut {d nt : Nat} {gi : GI} {g : AG} {Q : Option AV → AH → Prop} (hG : GOK g) (b1 : gi 1 0 1 = n32 nt) (n6 : nt ≤ 6) (hTh : ThingsR gi 0 nt (gi 64 0)) (hPI : ∀ t, t < 6 → PaperInv gi t)
    (hq : ∀ gi', OnlyPs nt gi gi' → (∀ t, t < nt → PapK gi' (gi 64 0) t) → (∀ t, t < 6 → PaperInv gi' t) → Q none (gi', g)) :
    ax_call (d + 5) m_S_layOut [.inr (.inr (some (0, 0)))] (gi, g) Q := by
  have key := loop_up (n := nt) (P := fun i => ∀ gi1 : GI, OnlyPs nt gi gi1 → (∀ t, t < i → PapK gi1 (gi 64 0) t) → (∀ t, t < 6 → PaperInv gi1 t) → Runs (d + 4) (m_S_layOut, 2, [some (.inr (.inr (some (0, 0)))), some (.inl (n32 i))], []) (gi1, g) Q) ?_ ?_
  · rw [e_S_layOut, b_S_layOut_0]
    exact key 0 (Nat.zero_le _) gi (fun _ _ _ _ _ _ => rfl) (fun t ht => absurd ht (Nat.not_lt_zero t)) hPI
  · intro i hi ih gi1 ho hp hpi
    have hq1 := qMod_Ps ho
    have e1 : gi1 1 0 1 = n32 nt := (hq1 1 0 1 rfl).trans b1
    have hv := thing_k (ThingsR_q hTh n6 hq1) hi
    rw [K_q hq1] at hv
    rw [b_S_layOut_2]
    simp (disch := omega) only [b_S_layOut_13, G_0_0 hG, G_0_1 hG, G_0_2 hG, G_0_3 hG, G_0_7 hG, G_0_10 hG, G_0_12 hG, G_0_13 hG, G_0_14 hG, G_0_15 hG, G_0_16 hG, G_0_17 hG, G_1_0 hG, G_1_2 hG, G_1_5 hG, G_2_4 hG, G_2_5 hG, G_3_5 hG, G_3_6 hG, G_3_7 hG, G_3_8 hG, G_3_9 hG, G_5_0 hG, G_5_1 hG, G_6_0 hG, G_6_1 hG, G_6_2 hG, G_6_9 hG, G_6_10 hG, G_6_11 hG, G_6_12 hG, G_6_13 hG, G_7_0 hG, G_7_5 hG, G_8_8 hG, G_8_9 hG, G_9_8 hG, G_9_9 hG, G_10_7 hG, G_10_8 hG, G_10_9 hG, G_10_10 hG, G_10_11 hG, G_11_0 hG, G_12_2 hG, G_12_3 hG, G_12_4 hG, G_12_5 hG, G_12_7 hG, G_12_8 hG, G_12_9 hG, G_12_12 hG, G_12_13 hG, G_12_14 hG, G_12_22 hG, G_12_23 hG, G_12_29 hG, G_12_30 hG, G_12_31 hG, G_12_37 hG, G_12_38 hG, G_12_39 hG, G_12_40 hG, G_12_41 hG, G_12_43 hG, G_12_46 hG, G_12_47 hG, G_12_48 hG, G_25 hG, G_26 hG, G_47 hG, G_58 hG, e1, hi, n32_add, n32_mul, n32_lt, n32_le, n32_eq, n32_clamp, n32_inT, n32_div, n32_rem, n32_m1, n32_m1', n32_m1lt, n32_ltm1, n32_10, n32_01, Nat.not_lt_zero, Nat.lt_irrefl, Nat.mul_zero, Nat.zero_mul, Nat.zero_add, Nat.add_zero, Nat.reduceEqDiff, Nat.one_ne_zero, Nat.zero_ne_one, ax_psh_none, ax_psh_some, true_and, and_true, and_false, false_and, not_true_eq_false, not_false_eq_true, true_imp_iff, false_imp_iff, imp_self, or_true, true_or, or_false, false_or, and_self, ite_true, ite_false, if_true, if_false]
    refine c_Paper_copy (d := d) hG (by omega) (hpi i (by omega)) hv.1 ?_
    intro gi2 ho2 hp2
    simp only [b_S_layOut_31, n32_add, ax_psh_none, ax_psh_some, true_and, and_true, and_false, false_and, not_true_eq_false, not_false_eq_true, true_imp_iff, false_imp_iff, imp_self, or_true, true_or, or_false, false_or, and_self, ite_true, ite_false, if_true, if_false]
    refine ih gi2 (fun s a j q1 q2 q3 => (OnlyP_s ho2 hi s a j q1 q2 q3).trans (ho s a j q1 q2 q3)) ?_ ?_
    · intro t ht
      by_cases z : t = i
      · rw [z]
        exact hp2
      · exact Pap_P (hp t (by omega)) ho2 z
    · intro t ht
      by_cases z : t = i
      · rw [z]
        exact Pap_inv hp2
      · exact PaperInv_P (hpi t ht) ho2 z
  · intro gi1 ho hp hpi
    have e1 : gi1 1 0 1 = n32 nt := (qMod_Ps ho 1 0 1 rfl).trans b1
    rw [b_S_layOut_2]
    simp (disch := omega) only [b_S_layOut_37, G_0_0 hG, G_0_1 hG, G_0_2 hG, G_0_3 hG, G_0_7 hG, G_0_10 hG, G_0_12 hG, G_0_13 hG, G_0_14 hG, G_0_15 hG, G_0_16 hG, G_0_17 hG, G_1_0 hG, G_1_2 hG, G_1_5 hG, G_2_4 hG, G_2_5 hG, G_3_5 hG, G_3_6 hG, G_3_7 hG, G_3_8 hG, G_3_9 hG, G_5_0 hG, G_5_1 hG, G_6_0 hG, G_6_1 hG, G_6_2 hG, G_6_9 hG, G_6_10 hG, G_6_11 hG, G_6_12 hG, G_6_13 hG, G_7_0 hG, G_7_5 hG, G_8_8 hG, G_8_9 hG, G_9_8 hG, G_9_9 hG, G_10_7 hG, G_10_8 hG, G_10_9 hG, G_10_10 hG, G_10_11 hG, G_11_0 hG, G_12_2 hG, G_12_3 hG, G_12_4 hG, G_12_5 hG, G_12_7 hG, G_12_8 hG, G_12_9 hG, G_12_12 hG, G_12_13 hG, G_12_14 hG, G_12_22 hG, G_12_23 hG, G_12_29 hG, G_12_30 hG, G_12_31 hG, G_12_37 hG, G_12_38 hG, G_12_39 hG, G_12_40 hG, G_12_41 hG, G_12_43 hG, G_12_46 hG, G_12_47 hG, G_12_48 hG, G_25 hG, G_26 hG, G_47 hG, G_58 hG, e1, n32_add, n32_mul, n32_lt, n32_le, n32_eq, n32_clamp, n32_inT, n32_div, n32_rem, n32_m1, n32_m1', n32_m1lt, n32_ltm1, n32_10, n32_01, Nat.not_lt_zero, Nat.lt_irrefl, Nat.mul_zero, Nat.zero_mul, Nat.zero_add, Nat.add_zero, Nat.reduceEqDiff, Nat.one_ne_zero, Nat.zero_ne_one, ax_psh_none, ax_psh_some, true_and, and_true, and_false, false_and, not_true_eq_false, not_false_eq_true, true_imp_iff, false_imp_iff, imp_self, or_true, true_or, or_false, false_or, and_self, ite_true, ite_false, if_true, if_false]
    exact hq gi1 ho hp hpi
/-- the law with a number, or none -/
def lawL (Ls : Nat → List PC) (x : Int32) : Option (List PC) := if x = -1 then none else some (Ls (cl x))
theorem law_ref {gi : GI} {g : AG} {m l : Nat} {K : Nat → Int32} {Ls : Nat → List PC} (h : LawsR gi g 0 m K Ls) (hl : l < m) (hm : m ≤ 6) : LawRef gi g (g.1 27 0 l) (lawL Ls (n32 l)) := by
  obtain ⟨⟨c, v, N, hN, hc, h1, h2, h3⟩, q, h4, h5, h6⟩ := h l hl
  refine Or.inr ⟨q, Ls l, h4, ?_, h6, fun e => pLaw_x e 12 0 0 0 _ h3⟩
  unfold lawL
  rw [if_neg (by rw [n32_m1 (by omega)]; exact id), cl_n (by omega)]
theorem law_m {gi : GI} {g : AG} {m : Nat} {Ls : Nat → List PC} {x : Int32} (h : LawsR gi g 0 m (gi 64 0) Ls) (hm : m ≤ 6) (hx : x = -1 ∨ ∃ f, f < m ∧ x = n32 f) : (x = -1 ∧ lawL Ls x = none) ∨ ∃ l l', x = n32 l ∧ l < 6 ∧ KLaw (gi 64 0) l l' ∧ lawL Ls x = some l' := by
  rcases hx with hx | ⟨f, hf, hx⟩
  · refine Or.inl ⟨hx, ?_⟩
    unfold lawL
    rw [if_pos hx]
  · refine Or.inr ⟨f, Ls f, hx, by omega, (h f hf).1, ?_⟩
    unfold lawL
    rw [hx, if_neg (by rw [n32_m1 (by omega)]; exact id), cl_n (by omega)]
theorem win_m1 {m : Nat} (hm : m ≤ 6) : win (-1) (n32 0) (n32 m - n32 1) = n32 0 := by
  have e : (-1 : Int32) < n32 0 := by decide
  unfold win
  rw [if_pos e]
theorem c_lawAt {d m : Nat} {gi : GI} {g : AG} {Q : Option AV → AH → Prop} {Ls : Nat → List PC} {x : Int32} (hG : GOK g) (b3 : gi 1 0 3 = n32 m) (m6 : m ≤ 6) (hL : LawsR gi g 0 m (gi 64 0) Ls) (hx : x = -1 ∨ ∃ f, f < m ∧ x = n32 f)
    (hq : ∀ lw, LawRef gi g lw (lawL Ls x) → Q (some (.inr (.inr lw))) (gi, g)) : ax_call (d + 3) m_Books_lawAt [.inr (.inr (some (1, 0))), .inl x] (gi, g) Q := by
  rcases hx with rfl | ⟨f, hf, rfl⟩
  · rw [c_Books_lawAt_n _ _ _ _ (by rw [b3]; exact win_m1 m6)]
    exact hq none (Or.inl ⟨rfl, rfl⟩)
  · rw [c_Books_lawAt _ _ _ _ hG b3 m6 hf]
    exact hq _ (law_ref hL hf m6)
