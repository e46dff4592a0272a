/-! the reference's going through: where things stand -/
def IB {α : Type} (N : Nat) (it : PI α) : Prop := ∀ a p s a' p' k m, a ≤ N → it a p s = .inr (a', p', k, m) → a < a' ∧ a' ≤ N
theorem c_lt {c : Nat → Nat} {N a x : Nat} (hc : ∀ a, N ≤ a → c a = 0) (hx : c a = x) (h0 : x ≠ 0) : a + 1 ≤ N := by
  rcases Nat.lt_or_ge a N with e | e
  · exact e
  · exact absurd ((hc a e).symm.trans hx).symm h0
theorem ib_leaf {c v : Nat → Nat} {N a p a' p' : Nat} {k : List (Nat × Nat)} {m : (Nat → Int) → Option Int} (hc : ∀ a, N ≤ a → c a = 0) (h : pLeaf c v a p = .inr (a', p', k, m)) : a < a' ∧ a' ≤ N := by
  by_cases hb : ((c a = 50 ∧ v a ≤ 1000) ∨ (7 ≤ c a ∧ c a ≤ 14)) ∧ p < 50
  · have h1 := c_lt hc (a := a) rfl (by omega)
    rcases hb with ⟨hb | hb, hp⟩
    · rw [pLeaf_n hb.1 hb.2 hp] at h
      simp only [Sum.inr.injEq, Prod.mk.injEq] at h
      omega
    · rw [pLeaf_w hb hp] at h
      simp only [Sum.inr.injEq, Prod.mk.injEq] at h
      omega
  · rw [pLeaf_f hb] at h
    exact absurd h (by simp)
theorem ib_loop {c : Nat → Nat} {o1 o2 k1 k2 s N : Nat} {it : PI Int} (hc : ∀ a, N ≤ a → c a = 0) (h1 : o1 ≠ 0) (h2 : o2 ≠ 0) (hit : IB N it) : ∀ (n a p : Nat) (k : List (Nat × Nat)) (m : (Nat → Int) → Option Int) (a' p' : Nat) (k' : List (Nat × Nat)) (m' : (Nat → Int) → Option Int), a ≤ N → pLoop c o1 o2 k1 k2 it s n a p k m = .inr (a', p', k', m') → a ≤ a' ∧ a' ≤ N := by
  intro n
  induction n with
  | zero =>
    intro a p k m a' p' k' m' ha h
    simp only [pLoop, Sum.inr.injEq, Prod.mk.injEq] at h
    omega
  | succ n ih =>
    intro a p k m a' p' k' m' ha h
    by_cases c1 : c a = o1 ∨ c a = o2
    · have haN : a + 1 ≤ N := by
        rcases c1 with c1 | c1
        · exact c_lt hc c1 h1
        · exact c_lt hc c1 h2
      match hk : it (a + 1) p (s + k.length) with
      | .inl f =>
        rw [pLoop_f c1 hk] at h
        exact absurd h (by simp)
      | .inr (a1, p1, kk, mm) =>
        have q1 := hit _ _ _ _ _ _ _ haN hk
        by_cases d1 : c a = o1
        · rw [pLoop_1 d1 hk] at h
          have := ih _ _ _ _ _ _ _ _ q1.2 h
          omega
        · rw [pLoop_2 d1 (by rcases c1 with c1 | c1; exact absurd c1 d1; exact c1) hk] at h
          have := ih _ _ _ _ _ _ _ _ q1.2 h
          omega
    · rw [pLoop_e (fun z => c1 (Or.inl z)) (fun z => c1 (Or.inr z))] at h
      simp only [Sum.inr.injEq, Prod.mk.injEq] at h
      omega
theorem ib_seq {c : Nat → Nat} {o1 o2 k1 k2 N : Nat} {it : PI Int} (hc : ∀ a, N ≤ a → c a = 0) (h1 : o1 ≠ 0) (h2 : o2 ≠ 0) (hit : IB N it) : IB N (pSeq c o1 o2 k1 k2 it) := by
  intro a p s a' p' k m ha h
  match hk : it a p s with
  | .inl f =>
    simp only [pSeq, hk] at h
    exact absurd h (by simp)
  | .inr (a1, p1, kk, mm) =>
    simp only [pSeq, hk] at h
    have q1 := hit _ _ _ _ _ _ _ ha hk
    have := ib_loop hc h1 h2 hit _ _ _ _ _ _ _ _ _ q1.2 h
    omega
theorem ib_bra {c v : Nat → Nat} {N : Nat} {inn : PI Int} (hc : ∀ a, N ≤ a → c a = 0) (hi : IB N inn) : IB N (pBra c v inn) := by
  intro a p s a' p' k m ha h
  by_cases hb : c a = 191
  · have haN := c_lt hc hb (by decide)
    match hk : inn (a + 1) p s with
    | .inl f =>
      simp only [pBra, hb, if_true, hk] at h
      exact absurd h (by simp)
    | .inr (a1, p1, kk, mm) =>
      have q1 := hi _ _ _ _ _ _ _ haN hk
      by_cases hc2 : c a1 = 193
      · have := c_lt hc hc2 (by decide)
        simp only [pBra, hb, if_true, hk, hc2, Sum.inr.injEq, Prod.mk.injEq] at h
        omega
      · simp only [pBra, hb, if_true, hk, hc2, if_false] at h
        exact absurd h (by simp)
  · simp only [pBra, hb, if_false] at h
    exact ib_leaf hc h
theorem ib_part {c : Nat → Nat} {N : Nat} (v : Nat → Nat) (hc : ∀ a, N ≤ a → c a = 0) : ∀ r, IB N (pPart c v r)
  | 0 => ib_bra hc (fun a p s a' p' k m _ h => absurd h (by simp))
  | r + 1 => ib_bra hc (ib_seq hc (by decide) (by decide) (ib_seq hc (by decide) (by decide) (ib_part v hc r)))
theorem ib_sum {c : Nat → Nat} {N : Nat} (v : Nat → Nat) (hc : ∀ a, N ≤ a → c a = 0) (r : Nat) : IB N (pSum c v r) := ib_seq hc (by decide) (by decide) (ib_seq hc (by decide) (by decide) (ib_part v hc r))
theorem ib_cmp {c : Nat → Nat} {N : Nat} {it : PI Int} (hc : ∀ a, N ≤ a → c a = 0) (hit : IB N it) : IB N (pCmp c it) := by
  intro a p s a' p' k m ha h
  match hk : it a p s with
  | .inl f =>
    simp only [pCmp, hk] at h
    exact absurd h (by simp)
  | .inr (a1, p1, k1, m1) =>
    have q1 := hit _ _ _ _ _ _ _ ha hk
    by_cases hs : c a1 = 160 ∨ c a1 = 162 ∨ c a1 = 161
    · have haN : a1 + 1 ≤ N := c_lt hc rfl (by omega)
      match hk2 : it (a1 + 1) p1 (s + k1.length) with
      | .inl f =>
        simp only [pCmp, hk, hs, if_true, hk2] at h
        exact absurd h (by simp)
      | .inr (a2, p2, k2, m2) =>
        have q2 := hit _ _ _ _ _ _ _ haN hk2
        simp only [pCmp, hk, hs, if_true, hk2, Sum.inr.injEq, Prod.mk.injEq] at h
        omega
    · simp only [pCmp, hk, hs, if_false] at h
      exact absurd h (by simp)
theorem ib_par {c : Nat → Nat} {N : Nat} {cmp inn : PI Bool} (hc : ∀ a, N ≤ a → c a = 0) (hcm : IB N cmp) (hi : IB N inn) : IB N (pPar c cmp inn) := by
  intro a p s a' p' k m ha h
  by_cases hb : c a = 140
  · have haN := c_lt hc hb (by decide)
    match hk : inn (a + 1) p s with
    | .inl f =>
      simp only [pPar, hb, if_true, hk] at h
      exact absurd h (by simp)
    | .inr (a1, p1, kk, mm) =>
      have q1 := hi _ _ _ _ _ _ _ haN hk
      by_cases hc2 : c a1 = 141
      · have := c_lt hc hc2 (by decide)
        simp only [pPar, hb, if_true, hk, hc2, Sum.inr.injEq, Prod.mk.injEq] at h
        omega
      · simp only [pPar, hb, if_true, hk, hc2, if_false] at h
        exact absurd h (by simp)
  · simp only [pPar, hb, if_false] at h
    exact hcm _ _ _ _ _ _ _ ha h
/-- what stands behind the nots -/
theorem pNot_inv {c : Nat → Nat} {cmp inn : PI Bool} {a p s a' p' : Nat} {k : List (Nat × Nat)} {m : (Nat → Int) → Option Bool} (h : pNot c cmp inn a p s = .inr (a', p', k, m)) : ∃ k1 m1, pPar c cmp inn (pNots c 400 a false).1 p s = .inr (a', p', k1, m1) ∧ ∀ e, m e = (m1 e).map (fun b => b != (pNots c 400 a false).2) := by
  unfold pNot at h
  match hk : pPar c cmp inn (pNots c 400 a false).1 p s with
  | .inl f =>
    rw [hk, pTurn_f rfl] at h
    exact absurd h (by simp)
  | .inr (a1, p1, kk, mm) =>
    rw [hk] at h
    cases ht : (pNots c 400 a false).2 with
    | false =>
      rw [ht, pTurn_0 rfl] at h
      simp only [Sum.inr.injEq, Prod.mk.injEq] at h
      obtain ⟨rfl, rfl, rfl, rfl⟩ := h
      refine ⟨_, _, rfl, fun e => ?_⟩
      cases mm e with
      | none => rfl
      | some b => cases b <;> rfl
    | true =>
      rw [ht, pTurn_1 rfl rfl] at h
      simp only [Sum.inr.injEq, Prod.mk.injEq] at h
      obtain ⟨rfl, rfl, rfl, rfl⟩ := h
      refine ⟨_, _, rfl, fun e => ?_⟩
      show Option.map (fun b => !b) (mm e) = _
      congr 1
      funext b
      cases b <;> rfl
theorem ib_not {c : Nat → Nat} {N : Nat} {cmp inn : PI Bool} (hc : ∀ a, N ≤ a → c a = 0) (hcm : IB N cmp) (hi : IB N inn) : IB N (pNot c cmp inn) := by
  intro a p s a' p' k m ha h
  obtain ⟨k1, m1, h1, -⟩ := pNot_inv h
  have q0 : a ≤ (pNots c 400 a false).1 := pNots_le
  have q := ib_par hc hcm hi _ _ _ _ _ _ _ (pNots_N hc ha) h1
  omega
theorem ib_tloop {c : Nat → Nat} {w kk s N : Nat} {sh : Bool} {it : PI Bool} (hc : ∀ a, N ≤ a → c a = 0) (hw : w ≠ 0) (hit : IB N it) : ∀ (n a p : Nat) (k : List (Nat × Nat)) (m : (Nat → Int) → Option Bool) (a' p' : Nat) (k' : List (Nat × Nat)) (m' : (Nat → Int) → Option Bool), a ≤ N → pTLoop c w kk sh it s n a p k m = .inr (a', p', k', m') → a ≤ a' ∧ a' ≤ N := by
  intro n
  induction n with
  | zero =>
    intro a p k m a' p' k' m' ha h
    simp only [pTLoop, Sum.inr.injEq, Prod.mk.injEq] at h
    omega
  | succ n ih =>
    intro a p k m a' p' k' m' ha h
    by_cases c1 : c a = w
    · have haN := c_lt hc c1 hw
      match hk : it (a + 1) p (s + k.length + 1) with
      | .inl f =>
        rw [pTLoop_f c1 hk] at h
        exact absurd h (by simp)
      | .inr (a1, p1, kk, mm) =>
        have q1 := hit _ _ _ _ _ _ _ haN hk
        rw [pTLoop_y c1 hk] at h
        have := ih _ _ _ _ _ _ _ _ q1.2 h
        omega
    · rw [pTLoop_e c1] at h
      simp only [Sum.inr.injEq, Prod.mk.injEq] at h
      omega
theorem ib_tseq {c : Nat → Nat} {w kk N : Nat} {sh : Bool} {it : PI Bool} (hc : ∀ a, N ≤ a → c a = 0) (hw : w ≠ 0) (hit : IB N it) : IB N (pTSeq c w kk sh it) := by
  intro a p s a' p' k m ha h
  match hk : it a p s with
  | .inl f =>
    simp only [pTSeq, hk] at h
    exact absurd h (by simp)
  | .inr (a1, p1, kk, mm) =>
    simp only [pTSeq, hk] at h
    have q1 := hit _ _ _ _ _ _ _ ha hk
    have := ib_tloop hc hw hit _ _ _ _ _ _ _ _ _ q1.2 h
    omega
theorem ib_plain {c : Nat → Nat} {N : Nat} (v : Nat → Nat) (hc : ∀ a, N ≤ a → c a = 0) : ∀ r, IB N (pPlain c v r)
  | 0 => ib_not hc (ib_cmp hc (ib_sum v hc 0)) (fun a p s a' p' k m _ h => absurd h (by simp))
  | r + 1 => ib_not hc (ib_cmp hc (ib_sum v hc (r + 1))) (ib_tseq hc (by decide) (ib_tseq hc (by decide) (ib_plain v hc r)))
theorem ib_test {c : Nat → Nat} {N : Nat} (v : Nat → Nat) (hc : ∀ a, N ≤ a → c a = 0) (r : Nat) : IB N (pTest c v r) := ib_tseq hc (by decide) (ib_tseq hc (by decide) (ib_plain v hc r))
/-! the reference's small methods -/
def evMod (s j : Nat) : Bool := s == 12 && (j == 19 || j == 21)
def EC (gi : GI) (c v : Nat → Nat) (N b : Nat) (e : Nat → Int) : Prop := N ≤ 400 ∧ b ≤ 2000 ∧ gi 12 0 20 = n32 (b + N) ∧ (∀ a, N ≤ a → c a = 0) ∧ (∀ i, i < N → gi 64 0 (805 + (b + i)) = n32 (c i) ∧ c i < 356 ∧ (c i = 50 → v i ≤ 1000 → gi 64 0 (3205 + (b + i)) = n32 (v i))) ∧ ∀ j, j < 8 → gi 73 0 j = iv (e j) ∧ Bd (e j)
theorem EC_fr {gi gi' : GI} {c v : Nat → Nat} {N b : Nat} {e : Nat → Int} (h : EC gi c v N b e) (hf : Fr evMod gi gi') : EC gi' c v N b e := by
  unfold EC at *
  have h1 : ∀ a, gi' 64 0 a = gi 64 0 a := fun a => hf 64 0 a rfl
  have h2 : ∀ a, gi' 73 0 a = gi 73 0 a := fun a => hf 73 0 a rfl
  have h3 : gi' 12 0 20 = gi 12 0 20 := hf 12 0 20 rfl
  simp only [h1, h2, h3]
  exact h
theorem EC_c {gi : GI} {c v : Nat → Nat} {N b : Nat} {e : Nat → Int} (h : EC gi c v N b e) (a : Nat) : c a < 356 := by
  rcases Nat.lt_or_ge a N with q | q
  · exact (h.2.2.2.2.1 a q).2.1
  · rw [h.2.2.2.1 a q]
    decide
theorem c_codeAt (d : Nat) {gi : GI} {g : AG} {Q : Option AV → AH → Prop} (hG : GOK g) {c v : Nat → Nat} {N b a : Nat} {e : Nat → Int} (h : EC gi c v N b e) (ha : a ≤ 1000) : ax_call (d + 1) m_M_codeAt [.inr (.inr (some (12, 0))), .inl (n32 (b + a))] (gi, g) Q = Q (some (.inl (n32 (c a)))) (gi, g) := by
  obtain ⟨hN, hb, h20, h0, hc, -⟩ := h
  by_cases q : a < N
  · have q2 : b + a < b + N := by omega
    simp (disch := omega) only [e_M_codeAt, b_M_codeAt_0, b_M_codeAt_8, b_M_codeAt_21, b_M_codeAt_22, h20, q2, G_0_0 hG, G_0_1 hG, G_0_2 hG, G_0_3 hG, G_0_7 hG, G_0_10 hG, G_0_12 hG, G_0_13 hG, G_0_14 hG, G_0_15 hG, G_0_16 hG, G_0_17 hG, G_1_0 hG, G_1_2 hG, G_1_5 hG, G_2_4 hG, G_2_5 hG, G_3_5 hG, G_3_6 hG, G_3_7 hG, G_3_8 hG, G_3_9 hG, G_5_0 hG, G_5_1 hG, G_6_0 hG, G_6_1 hG, G_6_2 hG, G_6_9 hG, G_6_10 hG, G_6_11 hG, G_6_12 hG, G_6_13 hG, G_7_0 hG, G_7_5 hG, G_8_8 hG, G_8_9 hG, G_9_8 hG, G_9_9 hG, G_10_7 hG, G_10_8 hG, G_10_9 hG, G_10_10 hG, G_10_11 hG, G_11_0 hG, G_12_2 hG, G_12_3 hG, G_12_4 hG, G_12_5 hG, G_12_7 hG, G_12_8 hG, G_12_9 hG, G_12_12 hG, G_12_13 hG, G_12_14 hG, G_12_22 hG, G_12_23 hG, G_12_29 hG, G_12_30 hG, G_12_31 hG, G_12_37 hG, G_12_38 hG, G_12_39 hG, G_12_40 hG, G_12_41 hG, G_12_43 hG, G_12_46 hG, G_12_47 hG, G_12_48 hG, G_25 hG, G_26 hG, G_47 hG, G_58 hG, (hc a q).1, n32_add, n32_mul, n32_lt, n32_le, n32_eq, n32_clamp, n32_inT, n32_div, n32_rem, n32_m1, n32_m1', n32_m1lt, n32_ltm1, n32_10, n32_01, Nat.not_lt_zero, Nat.lt_irrefl, Nat.mul_zero, Nat.zero_mul, Nat.zero_add, Nat.add_zero, Nat.reduceEqDiff, Nat.one_ne_zero, Nat.zero_ne_one, ax_psh_none, ax_psh_some, true_and, and_true, and_false, false_and, not_true_eq_false, not_false_eq_true, true_imp_iff, false_imp_iff, imp_self, or_true, true_or, or_false, false_or, and_self, ite_true, ite_false, if_true, if_false]
  · have q2 : ¬ b + a < b + N := by omega
    simp (disch := omega) only [e_M_codeAt, b_M_codeAt_0, b_M_codeAt_8, b_M_codeAt_21, b_M_codeAt_22, h20, q2, h0 a (by omega), n32_add, n32_mul, n32_lt, n32_le, n32_eq, n32_clamp, n32_inT, n32_div, n32_rem, n32_m1, n32_m1', n32_m1lt, n32_ltm1, n32_10, n32_01, Nat.not_lt_zero, Nat.lt_irrefl, Nat.mul_zero, Nat.zero_mul, Nat.zero_add, Nat.add_zero, Nat.reduceEqDiff, Nat.one_ne_zero, Nat.zero_ne_one, ax_psh_none, ax_psh_some, true_and, and_true, and_false, false_and, not_true_eq_false, not_false_eq_true, true_imp_iff, false_imp_iff, imp_self, or_true, true_or, or_false, false_or, and_self, ite_true, ite_false, if_true, if_false]
theorem c_passes_y (d : Nat) {gi : GI} {g : AG} {Q : Option AV → AH → Prop} (hG : GOK g) {c v : Nat → Nat} {N b a x : Nat} {e : Nat → Int} (h : EC gi c v N b e) (ha : a ≤ 1000) (hgo : gi 12 0 19 = n32 (b + a)) (hx : c a = x) : ax_call (d + 2) m_M_passes0 [.inr (.inr (some (12, 0))), .inl (n32 x)] (gi, g) Q = Q (some (.inl (n32 1))) (ax_wI gi 12 0 19 (n32 (b + (a + 1))), g) := by
  simp (disch := omega) only [e_M_passes0, b_M_passes0_0, b_M_passes0_8, b_M_passes0_12, b_M_passes0_16, b_M_passes0_17, b_M_passes0_22, b_M_passes0_32, hgo, c_codeAt _ hG h ha, hx, n32_add, n32_mul, n32_lt, n32_le, n32_eq, n32_clamp, n32_inT, n32_div, n32_rem, n32_m1, n32_m1', n32_m1lt, n32_ltm1, n32_10, n32_01, Nat.not_lt_zero, Nat.lt_irrefl, Nat.mul_zero, Nat.zero_mul, Nat.zero_add, Nat.add_zero, Nat.reduceEqDiff, Nat.one_ne_zero, Nat.zero_ne_one, ax_psh_none, ax_psh_some, true_and, and_true, and_false, false_and, not_true_eq_false, not_false_eq_true, true_imp_iff, false_imp_iff, imp_self, or_true, true_or, or_false, false_or, and_self, ite_true, ite_false, if_true, if_false, Nat.add_assoc]
theorem c_passes_n (d : Nat) {gi : GI} {g : AG} {Q : Option AV → AH → Prop} (hG : GOK g) {c v : Nat → Nat} {N b a x : Nat} {e : Nat → Int} (h : EC gi c v N b e) (ha : a ≤ 1000) (hgo : gi 12 0 19 = n32 (b + a)) (hx4 : x < 400) (hx : c a ≠ x) : ax_call (d + 2) m_M_passes0 [.inr (.inr (some (12, 0))), .inl (n32 x)] (gi, g) Q = Q (some (.inl (n32 0))) (gi, g) := by
  have := EC_c h a
  simp (disch := omega) only [e_M_passes0, b_M_passes0_0, b_M_passes0_8, b_M_passes0_12, b_M_passes0_16, b_M_passes0_17, b_M_passes0_22, b_M_passes0_32, hgo, c_codeAt _ hG h ha, hx, n32_add, n32_mul, n32_lt, n32_le, n32_eq, n32_clamp, n32_inT, n32_div, n32_rem, n32_m1, n32_m1', n32_m1lt, n32_ltm1, n32_10, n32_01, Nat.not_lt_zero, Nat.lt_irrefl, Nat.mul_zero, Nat.zero_mul, Nat.zero_add, Nat.add_zero, Nat.reduceEqDiff, Nat.one_ne_zero, Nat.zero_ne_one, ax_psh_none, ax_psh_some, true_and, and_true, and_false, false_and, not_true_eq_false, not_false_eq_true, true_imp_iff, false_imp_iff, imp_self, or_true, true_or, or_false, false_or, and_self, ite_true, ite_false, if_true, if_false]
theorem z64 : (n32 0).toInt64 = lv 0 := by decide
theorem o64 : (n32 1).toInt64 = lv 1 := by decide
theorem Bg0 : Bg 0 := by unfold Bg; omega
theorem Bd0 : Bd 0 := by unfold Bd; omega
/-- a number kept in bounds -/
theorem c_bounded_y (d : Nat) {gi : GI} {g : AG} {Q : Option AV → AH → Prop} (hG : GOK g) {x : Int} (hx : Bd x) (hb : gi 12 0 21 = n32 0) (lvx : Int32) : ax_call (d + 1) m_M_bounded [.inr (.inr (some (12, 0))), .inr (.inl (lv x)), .inl lvx] (gi, g) Q = Q (some (.inr (.inl (lv x)))) (gi, g) := by
  have h1 := Bd_g hx
  have e1 : ¬ x < -1000000000 := by unfold Bd at hx; omega
  have e2 : ¬ ((1000000000 : Nat) : Int) < x := by unfold Bd at hx; omega
  have b1 : Bg (-1000000000) := by unfold Bg; omega
  have b2 : Bg ((1000000000 : Nat) : Int) := by unfold Bg; omega
  by_cases hl : lvx = n32 0
  · simp only [e_M_bounded, b_M_bounded_0, b_M_bounded_4, b_M_bounded_12, b_M_bounded_20, b_M_bounded_25, b_M_bounded_32, b_M_bounded_36, b_M_bounded_37, hl, hb, ax_psh_none, ax_psh_some, true_and, and_true, and_false, false_and, not_true_eq_false, not_false_eq_true, true_imp_iff, false_imp_iff, imp_self, or_true, true_or, or_false, false_or, and_self, ite_true, ite_false, if_true, if_false]
  · simp (disch := omega) only [e_M_bounded, b_M_bounded_0, b_M_bounded_4, b_M_bounded_12, b_M_bounded_20, b_M_bounded_25, b_M_bounded_32, b_M_bounded_36, b_M_bounded_37, hl, hb, l_m9, lo_n (by omega : 1000000000 < 2147483648), cmp_lt h1 b1, cmp_gt h1 b2, e1, e2, ax_psh_none, ax_psh_some, true_and, and_true, and_false, false_and, not_true_eq_false, not_false_eq_true, true_imp_iff, false_imp_iff, imp_self, or_true, true_or, or_false, false_or, and_self, ite_true, ite_false, if_true, if_false]
theorem c_bounded_n (d : Nat) {gi : GI} {g : AG} {Q : Option AV → AH → Prop} (hG : GOK g) {x : Int} (hx : ¬ Bd x) (hg : Bg x) : ax_call (d + 1) m_M_bounded [.inr (.inr (some (12, 0))), .inr (.inl (lv x)), .inl (n32 1)] (gi, g) Q = Q (some (.inr (.inl (lv 0)))) (ax_wI gi 12 0 21 (n32 1), g) := by
  have b1 : Bg (-1000000000) := by unfold Bg; omega
  have b2 : Bg ((1000000000 : Nat) : Int) := by unfold Bg; omega
  have w : ax_wI gi 12 0 21 (n32 1) 12 0 21 = n32 1 := by simp [wI_at]
  by_cases e2 : ((1000000000 : Nat) : Int) < x
  · simp (disch := omega) only [e_M_bounded, b_M_bounded_0, b_M_bounded_4, b_M_bounded_12, b_M_bounded_20, b_M_bounded_25, b_M_bounded_32, b_M_bounded_36, b_M_bounded_37, l_m9, lo_n (by omega : 1000000000 < 2147483648), cmp_gt hg b2, e2, w, z64, n32_10, ax_psh_none, ax_psh_some, true_and, and_true, and_false, false_and, not_true_eq_false, not_false_eq_true, true_imp_iff, false_imp_iff, imp_self, or_true, true_or, or_false, false_or, and_self, ite_true, ite_false, if_true, if_false]
  · have e1 : x < -1000000000 := by unfold Bd at hx; omega
    simp (disch := omega) only [e_M_bounded, b_M_bounded_0, b_M_bounded_4, b_M_bounded_12, b_M_bounded_20, b_M_bounded_25, b_M_bounded_32, b_M_bounded_36, b_M_bounded_37, l_m9, lo_n (by omega : 1000000000 < 2147483648), cmp_lt hg b1, cmp_gt hg b2, e1, e2, w, z64, n32_10, ax_psh_none, ax_psh_some, true_and, and_true, and_false, false_and, not_true_eq_false, not_false_eq_true, true_imp_iff, false_imp_iff, imp_self, or_true, true_or, or_false, false_or, and_self, ite_true, ite_false, if_true, if_false]
theorem c_bounded_b (d : Nat) {gi : GI} {g : AG} {Q : Option AV → AH → Prop} (hG : GOK g) {x : Int} (hx : Bd x) (hb : gi 12 0 21 = n32 1) (lvx : Int32) : ax_call (d + 1) m_M_bounded [.inr (.inr (some (12, 0))), .inr (.inl (lv x)), .inl lvx] (gi, g) Q = Q (some (.inr (.inl (lv 0)))) (gi, g) := by
  have h1 := Bd_g hx
  have e1 : ¬ x < -1000000000 := by unfold Bd at hx; omega
  have e2 : ¬ ((1000000000 : Nat) : Int) < x := by unfold Bd at hx; omega
  have b1 : Bg (-1000000000) := by unfold Bg; omega
  have b2 : Bg ((1000000000 : Nat) : Int) := by unfold Bg; omega
  by_cases hl : lvx = n32 0
  · simp only [e_M_bounded, b_M_bounded_0, b_M_bounded_4, b_M_bounded_12, b_M_bounded_20, b_M_bounded_25, b_M_bounded_32, b_M_bounded_36, b_M_bounded_37, hl, hb, z64, n32_10, ax_psh_none, ax_psh_some, true_and, and_true, and_false, false_and, not_true_eq_false, not_false_eq_true, true_imp_iff, false_imp_iff, imp_self, or_true, true_or, or_false, false_or, and_self, ite_true, ite_false, if_true, if_false]
  · simp (disch := omega) only [e_M_bounded, b_M_bounded_0, b_M_bounded_4, b_M_bounded_12, b_M_bounded_20, b_M_bounded_25, b_M_bounded_32, b_M_bounded_36, b_M_bounded_37, hl, hb, l_m9, lo_n (by omega : 1000000000 < 2147483648), cmp_lt h1 b1, cmp_gt h1 b2, e1, e2, z64, n32_10, ax_psh_none, ax_psh_some, true_and, and_true, and_false, false_and, not_true_eq_false, not_false_eq_true, true_imp_iff, false_imp_iff, imp_self, or_true, true_or, or_false, false_or, and_self, ite_true, ite_false, if_true, if_false]
