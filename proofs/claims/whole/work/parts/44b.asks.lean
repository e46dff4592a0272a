/-! the books as they are asked; the clerk over all papers -/
def coMod (s _j : Nat) : Bool := s == 5 || s == 7 || s == 39 || s == 40 || s == 41 || s == 42
theorem co_clk {gi gi' : GI} (h : Fr clkMod gi gi') : Fr coMod gi gi' := Fr_mono h (fun s j q => by
  unfold coMod at q
  unfold clkMod
  simp only [Bool.or_eq_false_iff] at q ⊢
  exact ⟨⟨⟨⟨q.1.1.1.2, q.1.1.2⟩, q.1.2⟩, q.2⟩, by rw [q.1.1.1.1.1]; rfl⟩)
theorem co_op {gi gi' : GI} (h : Fr opMod gi gi') : Fr coMod gi gi' := Fr_mono h (fun s j q => by
  unfold coMod at q
  unfold opMod
  simp only [Bool.or_eq_false_iff] at q ⊢
  exact ⟨by rw [q.1.1.1.1.2]; rfl, q.1.2⟩)
theorem q_co {gi gi' : GI} (h : Fr coMod gi gi') : Fr qMod gi gi' := fun s a j q => h s a j (by
  unfold qMod at q
  unfold coMod
  have hb : ∀ x y : Nat, Nat.ble x y = true ↔ x ≤ y := fun x y => by rw [Nat.ble_eq]
  cases hz : (s == 5 || s == 7 || s == 39 || s == 40 || s == 41 || s == 42) with
  | false => rfl
  | true =>
    exfalso
    rw [← Bool.not_eq_true] at q
    simp only [Bool.or_eq_true, Bool.and_eq_true, beq_iff_eq, hb] at q hz
    omega)
theorem Pap_co {gi gi' : GI} {t W T O : Nat} {b : Nat → Nat} (h : Pap gi t W T O b) (hf : Fr coMod gi gi') : Pap gi' t W T O b := by
  obtain ⟨⟨p0, p1, p4, pW, pT, pw⟩, h2, h3, h54, hb, h55, h56⟩ := h
  exact ⟨⟨(hf 3 t 0 rfl).trans p0, (hf 3 t 1 rfl).trans p1, (hf 3 t 4 rfl).trans p4, pW, pT, fun f hf' c hc => (hf 59 _ c rfl).trans (pw f hf' c hc)⟩, (hf 3 t 2 rfl).trans h2, (hf 3 t 3 rfl).trans h3, fun c hc => (hf 54 t c rfl).trans (h54 c hc), hb, fun l hl => (hf 55 t l rfl).trans (h55 l hl), fun p hp => (hf 56 t p rfl).trans (h56 p hp)⟩
theorem PI_co {gi gi' : GI} (h : ∀ t, t < 6 → PaperInv gi t) (hf : Fr coMod gi gi') : ∀ t, t < 6 → PaperInv gi' t := fun t ht => PaperInv_of (h t ht) (fun j => hf 3 t j rfl) (fun a j => hf 59 a j rfl)
def slk (K : Nat → Int32) : Nat := cl (K 792)
def dyk (K : Nat → Int32) : Nat := cl (K 793)
def nek (K : Nat → Int32) : Nat := cl (K 794)
def twk (K : Nat → Int32) : Nat := cl (K 795)
theorem terms_k {K : Nat → Int32} (h : TermOK K) : (K 792 = n32 (slk K) ∧ slk K ≤ 64) ∧ (K 793 = n32 (dyk K) ∧ dyk K ≤ 99) ∧ (K 794 = n32 (nek K) ∧ 1 ≤ nek K ∧ nek K ≤ 9) ∧ (K 795 = n32 (twk K) ∧ twk K ≤ 999) := by
  obtain ⟨⟨a, ha, ea⟩, ⟨b, hb, eb⟩, ⟨c, hc, hc2, ec⟩, ⟨e, he, ee⟩⟩ := h
  unfold slk dyk nek twk
  rw [ea, eb, ec, ee, cl_n (by omega), cl_n (by omega), cl_n (by omega), cl_n (by omega)]
  exact ⟨⟨rfl, ha⟩, ⟨rfl, hb⟩, ⟨rfl, hc, hc2⟩, rfl, he⟩
/-- the books, as a call that only asks finds them -/
def BK (gi : GI) (g : AG) (Ls : Nat → List PC) (nt m : Nat) (K : Nat → Int32) : Prop := gi 64 0 = K ∧ GOK g ∧ BooksN gi 0 nt m K ∧ ThingsR gi 0 nt K ∧ LawsR gi g 0 m K Ls
theorem BK_q {gi gi' : GI} {g g' : AG} {Ls : Nat → List PC} {nt m : Nat} {K : Nat → Int32} (h : BK gi g Ls nt m K) (hf : Fr qMod gi gi') (hg : GF g g') : BK gi' g' Ls nt m K := by
  obtain ⟨rfl, hG, hN, hT, hL⟩ := h
  refine ⟨K_q hf, hg.2.1, BooksN_of hN (fun j _ _ => rfl) (fun s j q => ?_), ThingsR_of hT hN.1 (fun j _ => rfl) (fun s a j q => ?_), LawsR_of hL hN.2.1 (fun j _ _ => rfl) (fun s a j q => ?_) hg⟩
  · rcases q with rfl | rfl <;> exact hf _ _ _ rfl
  · rcases q with rfl | rfl | rfl <;> exact hf _ _ _ rfl
  · rcases q with rfl | rfl | rfl | rfl <;> exact hf _ _ _ rfl
theorem BK_of {n : Nat} {gi : GI} {g : AG} {Ls : Nat → List PC} (h : Core n gi g Ls) : ∃ nt m, BK gi g Ls nt m (gi 64 0) := by
  obtain ⟨nt, m, h1, h2, h3⟩ := h.2.1
  exact ⟨nt, m, rfl, h.1.1, h1, h2, h3⟩
theorem thing_b {gi : GI} {g : AG} {Ls : Nat → List PC} {nt m t : Nat} {K : Nat → Int32} (h : BK gi g Ls nt m K) (ht : t < nt) : ThV gi t (Wk K t) (Tk K t) (Ok K t) (bk K t) (hk K t) (K (132 * t + 3)) := by
  obtain ⟨rfl, -, -, hT, -⟩ := h
  exact thing_k hT ht
theorem c_handOver {d t nt m s : Nat} {gi : GI} {g : AG} {Ls : Nat → List PC} {K : Nat → Int32} {Q : Option AV → AH → Prop} (hB : BK gi g Ls nt m K) (ht : t < nt) (hP : PapK gi K t) (hs : Stamps gi s) (hs1 : s + 1 < 100000000)
    (hq : ∀ gi' g' lw, Fr coMod gi gi' → GF g g' → ClerkOn gi' g' t (Wk K t) (Tk K t) (Ok K t) (dyk K) (slk K) (s + 1) lw (lawL Ls (K 798)) → Q none (gi', g')) :
    ax_call (d + 4) m_S_handOver [.inr (.inr (some (0, 0))), .inr (.inr (some (3, t)))] (gi, g) Q := by
  obtain ⟨rfl, hG, ⟨n6, m6, k796, k797, b1, b3, b4, hfo, hte, hte2⟩, hTh, hLw⟩ := hB
  have hv := thing_k hTh ht
  obtain ⟨⟨a1, a2⟩, ⟨a3, a4⟩, -, -⟩ := terms_k hte
  have t0 : gi 28 0 0 = n32 (slk (gi 64 0)) := (hte2 0 (by omega)).trans a1
  have t1 : gi 28 0 1 = n32 (dyk (gi 64 0)) := (hte2 1 (by omega)).trans a3
  rw [e_S_handOver]
  simp (disch := omega) only [b_S_handOver_0, G_0_0 hG, G_0_1 hG, G_0_2 hG, G_0_3 hG, G_0_7 hG, G_0_10 hG, G_0_12 hG, G_0_13 hG, G_0_14 hG, G_0_15 hG, G_0_16 hG, G_0_17 hG, G_1_0 hG, G_1_2 hG, G_1_5 hG, G_2_4 hG, G_2_5 hG, G_3_5 hG, G_3_6 hG, G_3_7 hG, G_3_8 hG, G_3_9 hG, G_5_0 hG, G_5_1 hG, G_6_0 hG, G_6_1 hG, G_6_2 hG, G_6_9 hG, G_6_10 hG, G_6_11 hG, G_6_12 hG, G_6_13 hG, G_7_0 hG, G_7_5 hG, G_8_8 hG, G_8_9 hG, G_9_8 hG, G_9_9 hG, G_10_7 hG, G_10_8 hG, G_10_9 hG, G_10_10 hG, G_10_11 hG, G_11_0 hG, G_12_2 hG, G_12_3 hG, G_12_4 hG, G_12_5 hG, G_12_7 hG, G_12_8 hG, G_12_9 hG, G_12_12 hG, G_12_13 hG, G_12_14 hG, G_12_22 hG, G_12_23 hG, G_12_29 hG, G_12_30 hG, G_12_31 hG, G_12_37 hG, G_12_38 hG, G_12_39 hG, G_12_40 hG, G_12_41 hG, G_12_43 hG, G_12_46 hG, G_12_47 hG, G_12_48 hG, G_25 hG, G_26 hG, G_47 hG, G_58 hG, b4, ax_psh_none, ax_psh_some, true_and, and_true, and_false, false_and, not_true_eq_false, not_false_eq_true, true_imp_iff, false_imp_iff, imp_self, or_true, true_or, or_false, false_or, and_self, ite_true, ite_false, if_true, if_false]
  refine c_lawAt (d := d) hG b3 m6 hLw hfo ?_
  intro lw hlw
  have c0 : (n32 0).toNatClampNeg = 0 := by decide
  have c1 : (n32 1).toNatClampNeg = 1 := by decide
  have fin : ax_call (d + 3) m_Clerk_open [.inr (.inr (some (7, 0))), .inr (.inr (some (3, t))), .inr (.inr lw), .inl (n32 (dyk (gi 64 0))), .inl (n32 (slk (gi 64 0)))] (gi, g) (fun r h' => Runs (d + 3) (m_S_handOver, 40, [some (.inr (.inr (some (0, 0)))), some (.inr (.inr (some (3, t))))], ax_psh r []) h' Q) := by
    refine c_open (d := d + 1) hG hP.1.1 hP.1.2.1 hP.2.1 hv.1.2.2.2.1.2 hv.1.2.2.2.2.1.2 (by have := hv.2.2.1; omega) (by omega) (by omega) hs hs1 hlw ?_
    intro gi' g' fr gf hc
    simp only [b_S_handOver_40, ax_psh_none, ax_psh_some, true_and, and_true, and_false, false_and, not_true_eq_false, not_false_eq_true, true_imp_iff, false_imp_iff, imp_self, or_true, true_or, or_false, false_or, and_self, ite_true, ite_false, if_true, if_false]
    exact hq gi' g' lw (co_op fr) gf hc
  cases lw with
  | none =>
    simp (disch := omega) only [b_S_handOver_19a, G_0_0 hG, G_0_1 hG, G_0_2 hG, G_0_3 hG, G_0_7 hG, G_0_10 hG, G_0_12 hG, G_0_13 hG, G_0_14 hG, G_0_15 hG, G_0_16 hG, G_0_17 hG, G_1_0 hG, G_1_2 hG, G_1_5 hG, G_2_4 hG, G_2_5 hG, G_3_5 hG, G_3_6 hG, G_3_7 hG, G_3_8 hG, G_3_9 hG, G_5_0 hG, G_5_1 hG, G_6_0 hG, G_6_1 hG, G_6_2 hG, G_6_9 hG, G_6_10 hG, G_6_11 hG, G_6_12 hG, G_6_13 hG, G_7_0 hG, G_7_5 hG, G_8_8 hG, G_8_9 hG, G_9_8 hG, G_9_9 hG, G_10_7 hG, G_10_8 hG, G_10_9 hG, G_10_10 hG, G_10_11 hG, G_11_0 hG, G_12_2 hG, G_12_3 hG, G_12_4 hG, G_12_5 hG, G_12_7 hG, G_12_8 hG, G_12_9 hG, G_12_12 hG, G_12_13 hG, G_12_14 hG, G_12_22 hG, G_12_23 hG, G_12_29 hG, G_12_30 hG, G_12_31 hG, G_12_37 hG, G_12_38 hG, G_12_39 hG, G_12_40 hG, G_12_41 hG, G_12_43 hG, G_12_46 hG, G_12_47 hG, G_12_48 hG, G_25 hG, G_26 hG, G_47 hG, G_58 hG, c0, c1, t0, t1, n32_add, n32_mul, n32_lt, n32_le, n32_eq, n32_clamp, n32_inT, n32_div, n32_rem, n32_m1, n32_m1', n32_m1lt, n32_ltm1, n32_10, n32_01, Nat.not_lt_zero, Nat.lt_irrefl, Nat.mul_zero, Nat.zero_mul, Nat.zero_add, Nat.add_zero, Nat.reduceEqDiff, Nat.one_ne_zero, Nat.zero_ne_one, ax_psh_none, ax_psh_some, true_and, and_true, and_false, false_and, not_true_eq_false, not_false_eq_true, true_imp_iff, false_imp_iff, imp_self, or_true, true_or, or_false, false_or, and_self, ite_true, ite_false, if_true, if_false]
    exact fin
  | some q =>
    rcases hlw with ⟨z, -⟩ | ⟨q', l, z, -, -, -⟩
    · exact absurd z (by simp)
    · simp only [Option.some.injEq] at z
      subst z
      simp (disch := omega) only [b_S_handOver_19b, G_0_0 hG, G_0_1 hG, G_0_2 hG, G_0_3 hG, G_0_7 hG, G_0_10 hG, G_0_12 hG, G_0_13 hG, G_0_14 hG, G_0_15 hG, G_0_16 hG, G_0_17 hG, G_1_0 hG, G_1_2 hG, G_1_5 hG, G_2_4 hG, G_2_5 hG, G_3_5 hG, G_3_6 hG, G_3_7 hG, G_3_8 hG, G_3_9 hG, G_5_0 hG, G_5_1 hG, G_6_0 hG, G_6_1 hG, G_6_2 hG, G_6_9 hG, G_6_10 hG, G_6_11 hG, G_6_12 hG, G_6_13 hG, G_7_0 hG, G_7_5 hG, G_8_8 hG, G_8_9 hG, G_9_8 hG, G_9_9 hG, G_10_7 hG, G_10_8 hG, G_10_9 hG, G_10_10 hG, G_10_11 hG, G_11_0 hG, G_12_2 hG, G_12_3 hG, G_12_4 hG, G_12_5 hG, G_12_7 hG, G_12_8 hG, G_12_9 hG, G_12_12 hG, G_12_13 hG, G_12_14 hG, G_12_22 hG, G_12_23 hG, G_12_29 hG, G_12_30 hG, G_12_31 hG, G_12_37 hG, G_12_38 hG, G_12_39 hG, G_12_40 hG, G_12_41 hG, G_12_43 hG, G_12_46 hG, G_12_47 hG, G_12_48 hG, G_25 hG, G_26 hG, G_47 hG, G_58 hG, c0, c1, t0, t1, n32_add, n32_mul, n32_lt, n32_le, n32_eq, n32_clamp, n32_inT, n32_div, n32_rem, n32_m1, n32_m1', n32_m1lt, n32_ltm1, n32_10, n32_01, Nat.not_lt_zero, Nat.lt_irrefl, Nat.mul_zero, Nat.zero_mul, Nat.zero_add, Nat.add_zero, Nat.reduceEqDiff, Nat.one_ne_zero, Nat.zero_ne_one, ax_psh_none, ax_psh_some, true_and, and_true, and_false, false_and, not_true_eq_false, not_false_eq_true, true_imp_iff, false_imp_iff, imp_self, or_true, true_or, or_false, false_or, and_self, ite_true, ite_false, if_true, if_false]
      exact fin
def owK (K : Nat → Int32) (L : Option (List PC)) (dy : Nat) (bb : Nat → Nat → Nat) (t : Nat) : Nat := owesF L (Wk K t) (Tk K t) (Ok K t) dy (slk K) (bb t)
theorem c_owedByAll {d nt m s dy : Nat} {gi : GI} {g : AG} {Ls : Nat → List PC} {K : Nat → Int32} {bb : Nat → Nat → Nat} {lw : AR} {L : Option (List PC)} {Q : Option AV → AH → Prop} (hB : BK gi g Ls nt m K) (hP : ∀ t, t < nt → Pap gi t (Wk K t) (Tk K t) (Ok K t) (bb t)) (hL : LawRef gi g lw L) (hd : dy ≤ 1000) (hs : Stamps gi s) (hs1 : s + 6 < 100000000)
    (hq : ∀ gi' g', Fr coMod gi gi' → GF g g' → Stamps gi' (s + nt) → Q (some (.inl (n32 (sumN (owK K L dy bb) nt)))) (gi', g')) :
    ax_call (d + 6) m_S_owedByAll [.inr (.inr (some (0, 0))), .inr (.inr lw), .inl (n32 dy)] (gi, g) Q := by
  obtain ⟨rfl, hG, ⟨n6, m6, k796, k797, b1, b3, b4, hfo, hte, hte2⟩, hTh, hLw⟩ := hB
  obtain ⟨⟨a1, a2⟩, -, -, -⟩ := terms_k hte
  have t0 : gi 28 0 0 = n32 (slk (gi 64 0)) := (hte2 0 (by omega)).trans a1
  have c0 : (n32 0).toNatClampNeg = 0 := by decide
  have rst : ∀ i gi1 g1, i < nt → Fr coMod gi gi1 → GF g g1 → Stamps gi1 (s + i) → (∀ gi2 g2, Fr coMod gi gi2 → GF g g2 → Stamps gi2 (s + (i + 1)) → Runs (d + 5) (m_S_owedByAll, 5, [some (.inr (.inr (some (0, 0)))), some (.inr (.inr lw)), some (.inl (n32 dy)), some (.inl (n32 (sumN (owK (gi 64 0) L dy bb) (i + 1)))), some (.inl (n32 (i + 1)))], []) (gi2, g2) Q) → Runs (d + 5) (m_S_owedByAll, 17, [some (.inr (.inr (some (0, 0)))), some (.inr (.inr lw)), some (.inl (n32 dy)), some (.inl (n32 (sumN (owK (gi 64 0) L dy bb) i))), some (.inl (n32 i))], []) (gi1, g1) Q := by
    intro i gi1 g1 hi fr gf hs2 ih
    have hG := gf.2.1
    have hv := thing_k hTh hi
    have hp1 := Pap_co (hP i hi) fr
    have t01 : gi1 28 0 0 = n32 (slk (gi 64 0)) := (fr 28 0 0 rfl).trans t0
    have hL1 : LawRef gi1 g1 lw L := LawRef_fr hL (fun s a j q => by rcases q with rfl | rfl | rfl | rfl <;> exact fr _ _ _ rfl) gf
    have op : ∀ Q', (∀ gi' g', Fr opMod gi1 gi' → GF g1 g' → ClerkOn gi' g' i (Wk (gi 64 0) i) (Tk (gi 64 0) i) (Ok (gi 64 0) i) dy (slk (gi 64 0)) (s + i + 1) lw L → Q' none (gi', g')) → ax_call (d + 5) m_Clerk_open [.inr (.inr (some (7, 0))), .inr (.inr (some (3, i))), .inr (.inr lw), .inl (n32 dy), .inl (n32 (slk (gi 64 0)))] (gi1, g1) Q' := by
      intro Q' hq'
      exact c_open (d := d + 3) hG hp1.1.1 hp1.1.2.1 hp1.2.1 hv.1.2.2.2.1.2 hv.1.2.2.2.2.1.2 (by have := hv.2.2.1; omega) hd (by omega) hs2 (by omega) hL1 hq'
    have sm : n32 (sumN (owK (gi 64 0) L dy bb) i + owesF L (Wk (gi 64 0) i) (Tk (gi 64 0) i) (Ok (gi 64 0) i) dy (slk (gi 64 0)) (bb i)) = n32 (sumN (owK (gi 64 0) L dy bb) (i + 1)) := by rw [sumN_succ]; rfl
    cases lw with
    | none =>
      simp (disch := omega) only [b_S_owedByAll_17a, G_0_0 hG, G_0_1 hG, G_0_2 hG, G_0_3 hG, G_0_7 hG, G_0_10 hG, G_0_12 hG, G_0_13 hG, G_0_14 hG, G_0_15 hG, G_0_16 hG, G_0_17 hG, G_1_0 hG, G_1_2 hG, G_1_5 hG, G_2_4 hG, G_2_5 hG, G_3_5 hG, G_3_6 hG, G_3_7 hG, G_3_8 hG, G_3_9 hG, G_5_0 hG, G_5_1 hG, G_6_0 hG, G_6_1 hG, G_6_2 hG, G_6_9 hG, G_6_10 hG, G_6_11 hG, G_6_12 hG, G_6_13 hG, G_7_0 hG, G_7_5 hG, G_8_8 hG, G_8_9 hG, G_9_8 hG, G_9_9 hG, G_10_7 hG, G_10_8 hG, G_10_9 hG, G_10_10 hG, G_10_11 hG, G_11_0 hG, G_12_2 hG, G_12_3 hG, G_12_4 hG, G_12_5 hG, G_12_7 hG, G_12_8 hG, G_12_9 hG, G_12_12 hG, G_12_13 hG, G_12_14 hG, G_12_22 hG, G_12_23 hG, G_12_29 hG, G_12_30 hG, G_12_31 hG, G_12_37 hG, G_12_38 hG, G_12_39 hG, G_12_40 hG, G_12_41 hG, G_12_43 hG, G_12_46 hG, G_12_47 hG, G_12_48 hG, G_25 hG, G_26 hG, G_47 hG, G_58 hG, c0, t01, n32_add, n32_mul, n32_lt, n32_le, n32_eq, n32_clamp, n32_inT, n32_div, n32_rem, n32_m1, n32_m1', n32_m1lt, n32_ltm1, n32_10, n32_01, Nat.not_lt_zero, Nat.lt_irrefl, Nat.mul_zero, Nat.zero_mul, Nat.zero_add, Nat.add_zero, Nat.reduceEqDiff, Nat.one_ne_zero, Nat.zero_ne_one, ax_psh_none, ax_psh_some, true_and, and_true, and_false, false_and, not_true_eq_false, not_false_eq_true, true_imp_iff, false_imp_iff, imp_self, or_true, true_or, or_false, false_or, and_self, ite_true, ite_false, if_true, if_false]
      refine op _ ?_
      intro gi2 g2 fr2 gf2 hc2
      have hG := gf2.2.1
      simp (disch := omega) only [b_S_owedByAll_42a, G_0_0 hG, G_0_1 hG, G_0_2 hG, G_0_3 hG, G_0_7 hG, G_0_10 hG, G_0_12 hG, G_0_13 hG, G_0_14 hG, G_0_15 hG, G_0_16 hG, G_0_17 hG, G_1_0 hG, G_1_2 hG, G_1_5 hG, G_2_4 hG, G_2_5 hG, G_3_5 hG, G_3_6 hG, G_3_7 hG, G_3_8 hG, G_3_9 hG, G_5_0 hG, G_5_1 hG, G_6_0 hG, G_6_1 hG, G_6_2 hG, G_6_9 hG, G_6_10 hG, G_6_11 hG, G_6_12 hG, G_6_13 hG, G_7_0 hG, G_7_5 hG, G_8_8 hG, G_8_9 hG, G_9_8 hG, G_9_9 hG, G_10_7 hG, G_10_8 hG, G_10_9 hG, G_10_10 hG, G_10_11 hG, G_11_0 hG, G_12_2 hG, G_12_3 hG, G_12_4 hG, G_12_5 hG, G_12_7 hG, G_12_8 hG, G_12_9 hG, G_12_12 hG, G_12_13 hG, G_12_14 hG, G_12_22 hG, G_12_23 hG, G_12_29 hG, G_12_30 hG, G_12_31 hG, G_12_37 hG, G_12_38 hG, G_12_39 hG, G_12_40 hG, G_12_41 hG, G_12_43 hG, G_12_46 hG, G_12_47 hG, G_12_48 hG, G_25 hG, G_26 hG, G_47 hG, G_58 hG, ax_psh_none, ax_psh_some, true_and, and_true, and_false, false_and, not_true_eq_false, not_false_eq_true, true_imp_iff, false_imp_iff, imp_self, or_true, true_or, or_false, false_or, and_self, ite_true, ite_false, if_true, if_false]
      refine c_owed (d := d) hG hc2 (Pap_co hp1 (co_op fr2)) ?_
      intro gi3 fr3 hc3
      simp only [b_S_owedByAll_50a, n32_add, sm, ax_psh_none, ax_psh_some, true_and, and_true, and_false, false_and, not_true_eq_false, not_false_eq_true, true_imp_iff, false_imp_iff, imp_self, or_true, true_or, or_false, false_or, and_self, ite_true, ite_false, if_true, if_false]
      exact ih gi3 g2 (Fr_trans fr (Fr_trans (co_op fr2) (co_clk fr3))) (GF_trans gf gf2) hc3.2.2.2.1
    | some q =>
      rcases hL1 with ⟨z, -⟩ | ⟨q', l, z, -, -, -⟩
      · exact absurd z (by simp)
      · simp only [Option.some.injEq] at z
        subst z
        simp (disch := omega) only [b_S_owedByAll_17b, G_0_0 hG, G_0_1 hG, G_0_2 hG, G_0_3 hG, G_0_7 hG, G_0_10 hG, G_0_12 hG, G_0_13 hG, G_0_14 hG, G_0_15 hG, G_0_16 hG, G_0_17 hG, G_1_0 hG, G_1_2 hG, G_1_5 hG, G_2_4 hG, G_2_5 hG, G_3_5 hG, G_3_6 hG, G_3_7 hG, G_3_8 hG, G_3_9 hG, G_5_0 hG, G_5_1 hG, G_6_0 hG, G_6_1 hG, G_6_2 hG, G_6_9 hG, G_6_10 hG, G_6_11 hG, G_6_12 hG, G_6_13 hG, G_7_0 hG, G_7_5 hG, G_8_8 hG, G_8_9 hG, G_9_8 hG, G_9_9 hG, G_10_7 hG, G_10_8 hG, G_10_9 hG, G_10_10 hG, G_10_11 hG, G_11_0 hG, G_12_2 hG, G_12_3 hG, G_12_4 hG, G_12_5 hG, G_12_7 hG, G_12_8 hG, G_12_9 hG, G_12_12 hG, G_12_13 hG, G_12_14 hG, G_12_22 hG, G_12_23 hG, G_12_29 hG, G_12_30 hG, G_12_31 hG, G_12_37 hG, G_12_38 hG, G_12_39 hG, G_12_40 hG, G_12_41 hG, G_12_43 hG, G_12_46 hG, G_12_47 hG, G_12_48 hG, G_25 hG, G_26 hG, G_47 hG, G_58 hG, c0, t01, n32_add, n32_mul, n32_lt, n32_le, n32_eq, n32_clamp, n32_inT, n32_div, n32_rem, n32_m1, n32_m1', n32_m1lt, n32_ltm1, n32_10, n32_01, Nat.not_lt_zero, Nat.lt_irrefl, Nat.mul_zero, Nat.zero_mul, Nat.zero_add, Nat.add_zero, Nat.reduceEqDiff, Nat.one_ne_zero, Nat.zero_ne_one, ax_psh_none, ax_psh_some, true_and, and_true, and_false, false_and, not_true_eq_false, not_false_eq_true, true_imp_iff, false_imp_iff, imp_self, or_true, true_or, or_false, false_or, and_self, ite_true, ite_false, if_true, if_false]
        refine op _ ?_
        intro gi2 g2 fr2 gf2 hc2
        have hG := gf2.2.1
        simp (disch := omega) only [b_S_owedByAll_42b, G_0_0 hG, G_0_1 hG, G_0_2 hG, G_0_3 hG, G_0_7 hG, G_0_10 hG, G_0_12 hG, G_0_13 hG, G_0_14 hG, G_0_15 hG, G_0_16 hG, G_0_17 hG, G_1_0 hG, G_1_2 hG, G_1_5 hG, G_2_4 hG, G_2_5 hG, G_3_5 hG, G_3_6 hG, G_3_7 hG, G_3_8 hG, G_3_9 hG, G_5_0 hG, G_5_1 hG, G_6_0 hG, G_6_1 hG, G_6_2 hG, G_6_9 hG, G_6_10 hG, G_6_11 hG, G_6_12 hG, G_6_13 hG, G_7_0 hG, G_7_5 hG, G_8_8 hG, G_8_9 hG, G_9_8 hG, G_9_9 hG, G_10_7 hG, G_10_8 hG, G_10_9 hG, G_10_10 hG, G_10_11 hG, G_11_0 hG, G_12_2 hG, G_12_3 hG, G_12_4 hG, G_12_5 hG, G_12_7 hG, G_12_8 hG, G_12_9 hG, G_12_12 hG, G_12_13 hG, G_12_14 hG, G_12_22 hG, G_12_23 hG, G_12_29 hG, G_12_30 hG, G_12_31 hG, G_12_37 hG, G_12_38 hG, G_12_39 hG, G_12_40 hG, G_12_41 hG, G_12_43 hG, G_12_46 hG, G_12_47 hG, G_12_48 hG, G_25 hG, G_26 hG, G_47 hG, G_58 hG, ax_psh_none, ax_psh_some, true_and, and_true, and_false, false_and, not_true_eq_false, not_false_eq_true, true_imp_iff, false_imp_iff, imp_self, or_true, true_or, or_false, false_or, and_self, ite_true, ite_false, if_true, if_false]
        refine c_owed (d := d) hG hc2 (Pap_co hp1 (co_op fr2)) ?_
        intro gi3 fr3 hc3
        simp only [b_S_owedByAll_50b, n32_add, sm, ax_psh_none, ax_psh_some, true_and, and_true, and_false, false_and, not_true_eq_false, not_false_eq_true, true_imp_iff, false_imp_iff, imp_self, or_true, true_or, or_false, false_or, and_self, ite_true, ite_false, if_true, if_false]
        exact ih gi3 g2 (Fr_trans fr (Fr_trans (co_op fr2) (co_clk fr3))) (GF_trans gf gf2) hc3.2.2.2.1
  have key := loop_up (n := nt) (P := fun i => ∀ gi1 g1, Fr coMod gi gi1 → GF g g1 → Stamps gi1 (s + i) → Runs (d + 5) (m_S_owedByAll, 5, [some (.inr (.inr (some (0, 0)))), some (.inr (.inr lw)), some (.inl (n32 dy)), some (.inl (n32 (sumN (owK (gi 64 0) L dy bb) i))), some (.inl (n32 i))], []) (gi1, g1) Q) ?_ ?_
  · have k0 := key 0 (Nat.zero_le _) gi g (Fr_refl _ _) (GF_refl hG) hs
    cases lw with
    | none =>
      rw [e_S_owedByAlla, b_S_owedByAll_0a]
      exact k0
    | some q =>
      rcases hL with ⟨z, -⟩ | ⟨q', l, z, -, -, -⟩
      · exact absurd z (by simp)
      · simp only [Option.some.injEq] at z
        subst z
        rw [e_S_owedByAllb, b_S_owedByAll_0b]
        exact k0
  · intro i hi ih gi1 g1 fr gf hs2
    have hG := gf.2.1
    have e1 : gi1 1 0 1 = n32 nt := (fr 1 0 1 rfl).trans b1
    have r := rst i gi1 g1 hi fr gf hs2 (fun gi2 g2 f2 g2' s2 => ih gi2 g2 f2 g2' s2)
    cases lw with
    | none =>
      rw [b_S_owedByAll_5a]
      simp (disch := omega) only [G_0_0 hG, G_0_1 hG, G_0_2 hG, G_0_3 hG, G_0_7 hG, G_0_10 hG, G_0_12 hG, G_0_13 hG, G_0_14 hG, G_0_15 hG, G_0_16 hG, G_0_17 hG, G_1_0 hG, G_1_2 hG, G_1_5 hG, G_2_4 hG, G_2_5 hG, G_3_5 hG, G_3_6 hG, G_3_7 hG, G_3_8 hG, G_3_9 hG, G_5_0 hG, G_5_1 hG, G_6_0 hG, G_6_1 hG, G_6_2 hG, G_6_9 hG, G_6_10 hG, G_6_11 hG, G_6_12 hG, G_6_13 hG, G_7_0 hG, G_7_5 hG, G_8_8 hG, G_8_9 hG, G_9_8 hG, G_9_9 hG, G_10_7 hG, G_10_8 hG, G_10_9 hG, G_10_10 hG, G_10_11 hG, G_11_0 hG, G_12_2 hG, G_12_3 hG, G_12_4 hG, G_12_5 hG, G_12_7 hG, G_12_8 hG, G_12_9 hG, G_12_12 hG, G_12_13 hG, G_12_14 hG, G_12_22 hG, G_12_23 hG, G_12_29 hG, G_12_30 hG, G_12_31 hG, G_12_37 hG, G_12_38 hG, G_12_39 hG, G_12_40 hG, G_12_41 hG, G_12_43 hG, G_12_46 hG, G_12_47 hG, G_12_48 hG, G_25 hG, G_26 hG, G_47 hG, G_58 hG, e1, hi, n32_add, n32_mul, n32_lt, n32_le, n32_eq, n32_clamp, n32_inT, n32_div, n32_rem, n32_m1, n32_m1', n32_m1lt, n32_ltm1, n32_10, n32_01, Nat.not_lt_zero, Nat.lt_irrefl, Nat.mul_zero, Nat.zero_mul, Nat.zero_add, Nat.add_zero, Nat.reduceEqDiff, Nat.one_ne_zero, Nat.zero_ne_one, ax_psh_none, ax_psh_some, true_and, and_true, and_false, false_and, not_true_eq_false, not_false_eq_true, true_imp_iff, false_imp_iff, imp_self, or_true, true_or, or_false, false_or, and_self, ite_true, ite_false, if_true, if_false]
      exact r
    | some q =>
      rcases hL with ⟨z, -⟩ | ⟨q', l, z, -, -, -⟩
      · exact absurd z (by simp)
      · simp only [Option.some.injEq] at z
        subst z
        rw [b_S_owedByAll_5b]
        simp (disch := omega) only [G_0_0 hG, G_0_1 hG, G_0_2 hG, G_0_3 hG, G_0_7 hG, G_0_10 hG, G_0_12 hG, G_0_13 hG, G_0_14 hG, G_0_15 hG, G_0_16 hG, G_0_17 hG, G_1_0 hG, G_1_2 hG, G_1_5 hG, G_2_4 hG, G_2_5 hG, G_3_5 hG, G_3_6 hG, G_3_7 hG, G_3_8 hG, G_3_9 hG, G_5_0 hG, G_5_1 hG, G_6_0 hG, G_6_1 hG, G_6_2 hG, G_6_9 hG, G_6_10 hG, G_6_11 hG, G_6_12 hG, G_6_13 hG, G_7_0 hG, G_7_5 hG, G_8_8 hG, G_8_9 hG, G_9_8 hG, G_9_9 hG, G_10_7 hG, G_10_8 hG, G_10_9 hG, G_10_10 hG, G_10_11 hG, G_11_0 hG, G_12_2 hG, G_12_3 hG, G_12_4 hG, G_12_5 hG, G_12_7 hG, G_12_8 hG, G_12_9 hG, G_12_12 hG, G_12_13 hG, G_12_14 hG, G_12_22 hG, G_12_23 hG, G_12_29 hG, G_12_30 hG, G_12_31 hG, G_12_37 hG, G_12_38 hG, G_12_39 hG, G_12_40 hG, G_12_41 hG, G_12_43 hG, G_12_46 hG, G_12_47 hG, G_12_48 hG, G_25 hG, G_26 hG, G_47 hG, G_58 hG, e1, hi, n32_add, n32_mul, n32_lt, n32_le, n32_eq, n32_clamp, n32_inT, n32_div, n32_rem, n32_m1, n32_m1', n32_m1lt, n32_ltm1, n32_10, n32_01, Nat.not_lt_zero, Nat.lt_irrefl, Nat.mul_zero, Nat.zero_mul, Nat.zero_add, Nat.add_zero, Nat.reduceEqDiff, Nat.one_ne_zero, Nat.zero_ne_one, ax_psh_none, ax_psh_some, true_and, and_true, and_false, false_and, not_true_eq_false, not_false_eq_true, true_imp_iff, false_imp_iff, imp_self, or_true, true_or, or_false, false_or, and_self, ite_true, ite_false, if_true, if_false]
        exact r
  · intro gi1 g1 fr gf hs2
    have hG := gf.2.1
    have e1 : gi1 1 0 1 = n32 nt := (fr 1 0 1 rfl).trans b1
    have r := hq gi1 g1 fr gf hs2
    cases lw with
    | none =>
      rw [b_S_owedByAll_5a]
      simp (disch := omega) only [b_S_owedByAll_58, G_0_0 hG, G_0_1 hG, G_0_2 hG, G_0_3 hG, G_0_7 hG, G_0_10 hG, G_0_12 hG, G_0_13 hG, G_0_14 hG, G_0_15 hG, G_0_16 hG, G_0_17 hG, G_1_0 hG, G_1_2 hG, G_1_5 hG, G_2_4 hG, G_2_5 hG, G_3_5 hG, G_3_6 hG, G_3_7 hG, G_3_8 hG, G_3_9 hG, G_5_0 hG, G_5_1 hG, G_6_0 hG, G_6_1 hG, G_6_2 hG, G_6_9 hG, G_6_10 hG, G_6_11 hG, G_6_12 hG, G_6_13 hG, G_7_0 hG, G_7_5 hG, G_8_8 hG, G_8_9 hG, G_9_8 hG, G_9_9 hG, G_10_7 hG, G_10_8 hG, G_10_9 hG, G_10_10 hG, G_10_11 hG, G_11_0 hG, G_12_2 hG, G_12_3 hG, G_12_4 hG, G_12_5 hG, G_12_7 hG, G_12_8 hG, G_12_9 hG, G_12_12 hG, G_12_13 hG, G_12_14 hG, G_12_22 hG, G_12_23 hG, G_12_29 hG, G_12_30 hG, G_12_31 hG, G_12_37 hG, G_12_38 hG, G_12_39 hG, G_12_40 hG, G_12_41 hG, G_12_43 hG, G_12_46 hG, G_12_47 hG, G_12_48 hG, G_25 hG, G_26 hG, G_47 hG, G_58 hG, e1, n32_add, n32_mul, n32_lt, n32_le, n32_eq, n32_clamp, n32_inT, n32_div, n32_rem, n32_m1, n32_m1', n32_m1lt, n32_ltm1, n32_10, n32_01, Nat.not_lt_zero, Nat.lt_irrefl, Nat.mul_zero, Nat.zero_mul, Nat.zero_add, Nat.add_zero, Nat.reduceEqDiff, Nat.one_ne_zero, Nat.zero_ne_one, ax_psh_none, ax_psh_some, true_and, and_true, and_false, false_and, not_true_eq_false, not_false_eq_true, true_imp_iff, false_imp_iff, imp_self, or_true, true_or, or_false, false_or, and_self, ite_true, ite_false, if_true, if_false]
      exact r
    | some q =>
      rcases hL with ⟨z, -⟩ | ⟨q', l, z, -, -, -⟩
      · exact absurd z (by simp)
      · simp only [Option.some.injEq] at z
        subst z
        rw [b_S_owedByAll_5b]
        simp (disch := omega) only [b_S_owedByAll_58, G_0_0 hG, G_0_1 hG, G_0_2 hG, G_0_3 hG, G_0_7 hG, G_0_10 hG, G_0_12 hG, G_0_13 hG, G_0_14 hG, G_0_15 hG, G_0_16 hG, G_0_17 hG, G_1_0 hG, G_1_2 hG, G_1_5 hG, G_2_4 hG, G_2_5 hG, G_3_5 hG, G_3_6 hG, G_3_7 hG, G_3_8 hG, G_3_9 hG, G_5_0 hG, G_5_1 hG, G_6_0 hG, G_6_1 hG, G_6_2 hG, G_6_9 hG, G_6_10 hG, G_6_11 hG, G_6_12 hG, G_6_13 hG, G_7_0 hG, G_7_5 hG, G_8_8 hG, G_8_9 hG, G_9_8 hG, G_9_9 hG, G_10_7 hG, G_10_8 hG, G_10_9 hG, G_10_10 hG, G_10_11 hG, G_11_0 hG, G_12_2 hG, G_12_3 hG, G_12_4 hG, G_12_5 hG, G_12_7 hG, G_12_8 hG, G_12_9 hG, G_12_12 hG, G_12_13 hG, G_12_14 hG, G_12_22 hG, G_12_23 hG, G_12_29 hG, G_12_30 hG, G_12_31 hG, G_12_37 hG, G_12_38 hG, G_12_39 hG, G_12_40 hG, G_12_41 hG, G_12_43 hG, G_12_46 hG, G_12_47 hG, G_12_48 hG, G_25 hG, G_26 hG, G_47 hG, G_58 hG, e1, n32_add, n32_mul, n32_lt, n32_le, n32_eq, n32_clamp, n32_inT, n32_div, n32_rem, n32_m1, n32_m1', n32_m1lt, n32_ltm1, n32_10, n32_01, Nat.not_lt_zero, Nat.lt_irrefl, Nat.mul_zero, Nat.zero_mul, Nat.zero_add, Nat.add_zero, Nat.reduceEqDiff, Nat.one_ne_zero, Nat.zero_ne_one, ax_psh_none, ax_psh_some, true_and, and_true, and_false, false_and, not_true_eq_false, not_false_eq_true, true_imp_iff, false_imp_iff, imp_self, or_true, true_or, or_false, false_or, and_self, ite_true, ite_false, if_true, if_false]
        exact r
