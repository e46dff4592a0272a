/-! the reference splits a text -/
def SB (y : Int32) (b : Nat) : Prop := b < 256 ∧ (b < 128 → y = n32 b) ∧ (128 ≤ b → y < n32 0) ∧ y &&& n32 255 = n32 b
def TapeM (gi : GI) (B : Nat → Nat) : Prop := ∀ i, i < 400 → SB (gi 68 0 i) (B i)
theorem SB_lt {y : Int32} {b k : Nat} (h : SB y b) (hk : k < 128) : (y < n32 k) ↔ (b < k ∨ 128 ≤ b) := by
  obtain ⟨h1, h2, h3, -⟩ := h
  rcases Nat.lt_or_ge b 128 with q | q
  · rw [h2 q, n32_lt (by omega) (by omega)]
    omega
  · have := h3 q
    refine ⟨fun _ => Or.inr q, fun _ => ?_⟩
    rw [Int32.lt_iff_toInt_lt] at this ⊢
    rw [n32_toInt (by omega)] at this ⊢
    omega
theorem SB_gt {y : Int32} {b k : Nat} (h : SB y b) (hk : k < 128) : (n32 k < y) ↔ (k < b ∧ b < 128) := by
  obtain ⟨h1, h2, h3, -⟩ := h
  rcases Nat.lt_or_ge b 128 with q | q
  · rw [h2 q, n32_lt (by omega) (by omega)]
    omega
  · have := h3 q
    rw [Int32.lt_iff_toInt_lt] at this ⊢
    rw [n32_toInt (by omega)] at this ⊢
    omega
theorem SB_eq {y : Int32} {b k : Nat} (h : SB y b) (hk : k < 128) : (y = n32 k) ↔ b = k := by
  obtain ⟨h1, h2, h3, -⟩ := h
  rcases Nat.lt_or_ge b 128 with q | q
  · rw [h2 q, n32_eq (by omega) (by omega)]
  · have := h3 q
    refine ⟨fun e => ?_, fun e => by omega⟩
    rw [e, n32_neg (by omega)] at this
    exact this.elim
theorem SB_eq' {y : Int32} {b k : Nat} (h : SB y b) (hk : k < 128) : (n32 k = y) ↔ k = b := by
  rw [eq_comm, SB_eq h hk]
  exact eq_comm
theorem c_isSmall (d : Nat) (gi : GI) (g : AG) (Q : Option AV → AH → Prop) {y : Int32} {b : Nat} (h : SB y b) : ax_call (d + 1) m_M_isSmall [.inl y] (gi, g) Q = Q (some (.inl (b32 (decide (kb b = 2))))) (gi, g) := by
  have e1 := SB_lt h (k := 97) (by omega)
  have e2 := SB_gt h (k := 122) (by omega)
  by_cases q : 97 ≤ b ∧ b ≤ 122
  · have e3 : kb b = 2 := by unfold kb; rw [if_pos q]
    have z1 : ¬ y < n32 97 := fun z => by have := e1.mp z; omega
    have z2 : ¬ n32 122 < y := fun z => by have := e2.mp z; omega
    simp only [e_M_isSmall, b_M_isSmall_0, b_M_isSmall_6, b_M_isSmall_12, b_M_isSmall_16, b_M_isSmall_17, z1, z2, e3, decide_true, b32_1, ax_psh_none, ax_psh_some, true_and, and_true, and_false, false_and, not_true_eq_false, not_false_eq_true, true_imp_iff, false_imp_iff, imp_self, or_true, true_or, or_false, false_or, and_self, ite_true, ite_false, if_true, if_false]
  · have e3 : ¬ kb b = 2 := by
      unfold kb
      rw [if_neg q]
      split <;> omega
    by_cases z1 : y < n32 97
    · simp only [e_M_isSmall, b_M_isSmall_0, b_M_isSmall_6, b_M_isSmall_12, b_M_isSmall_16, b_M_isSmall_17, z1, e3, decide_false, b32_0, ax_psh_none, ax_psh_some, true_and, and_true, and_false, false_and, not_true_eq_false, not_false_eq_true, true_imp_iff, false_imp_iff, imp_self, or_true, true_or, or_false, false_or, and_self, ite_true, ite_false, if_true, if_false]
    · have z2 : n32 122 < y := by
        refine e2.mpr ?_
        have hh := mt e1.mpr z1
        omega
      simp only [e_M_isSmall, b_M_isSmall_0, b_M_isSmall_6, b_M_isSmall_12, b_M_isSmall_16, b_M_isSmall_17, z1, z2, e3, decide_false, b32_0, ax_psh_none, ax_psh_some, true_and, and_true, and_false, false_and, not_true_eq_false, not_false_eq_true, true_imp_iff, false_imp_iff, imp_self, or_true, true_or, or_false, false_or, and_self, ite_true, ite_false, if_true, if_false]
theorem c_isDigit (d : Nat) (gi : GI) (g : AG) (Q : Option AV → AH → Prop) {y : Int32} {b : Nat} (h : SB y b) : ax_call (d + 1) m_M_isDigit [.inl y] (gi, g) Q = Q (some (.inl (b32 (decide (kb b = 1))))) (gi, g) := by
  have e1 := SB_lt h (k := 48) (by omega)
  have e2 := SB_gt h (k := 57) (by omega)
  by_cases q : 48 ≤ b ∧ b ≤ 57
  · have e3 : kb b = 1 := by unfold kb; rw [if_neg (by omega), if_pos q]
    have z1 : ¬ y < n32 48 := fun z => by have := e1.mp z; omega
    have z2 : ¬ n32 57 < y := fun z => by have := e2.mp z; omega
    simp only [e_M_isDigit, b_M_isDigit_0, b_M_isDigit_6, b_M_isDigit_12, b_M_isDigit_16, b_M_isDigit_17, z1, z2, e3, decide_true, b32_1, ax_psh_none, ax_psh_some, true_and, and_true, and_false, false_and, not_true_eq_false, not_false_eq_true, true_imp_iff, false_imp_iff, imp_self, or_true, true_or, or_false, false_or, and_self, ite_true, ite_false, if_true, if_false]
  · have e3 : ¬ kb b = 1 := by
      unfold kb
      split
      · omega
      · first
        | omega
        | rw [if_neg q]; omega
    by_cases z1 : y < n32 48
    · simp only [e_M_isDigit, b_M_isDigit_0, b_M_isDigit_6, b_M_isDigit_12, b_M_isDigit_16, b_M_isDigit_17, z1, e3, decide_false, b32_0, ax_psh_none, ax_psh_some, true_and, and_true, and_false, false_and, not_true_eq_false, not_false_eq_true, true_imp_iff, false_imp_iff, imp_self, or_true, true_or, or_false, false_or, and_self, ite_true, ite_false, if_true, if_false]
    · have z2 : n32 57 < y := by
        refine e2.mpr ?_
        have hh := mt e1.mpr z1
        omega
      simp only [e_M_isDigit, b_M_isDigit_0, b_M_isDigit_6, b_M_isDigit_12, b_M_isDigit_16, b_M_isDigit_17, z1, z2, e3, decide_false, b32_0, ax_psh_none, ax_psh_some, true_and, and_true, and_false, false_and, not_true_eq_false, not_false_eq_true, true_imp_iff, false_imp_iff, imp_self, or_true, true_or, or_false, false_or, and_self, ite_true, ite_false, if_true, if_false]
def wbs : List Nat := [116, 97, 120, 32, 115, 112, 97, 114, 101, 115, 32, 105, 102, 32, 111, 114, 32, 97, 110, 100, 32, 110, 111, 116, 32, 108, 105, 107, 101, 32, 111, 102, 102, 32, 119, 105, 100, 101, 32, 116, 97, 108, 108, 32, 97, 114, 101, 97, 32, 111, 119, 110, 101, 114, 32, 100, 97, 121, 32, 112, 97, 114, 116, 115, 32]
def woffs : List Nat := [0, 0, 4, 11, 14, 17, 21, 25, 30, 34, 39, 44, 49, 55, 59, 65]
def woff (k : Nat) : Nat := woffs.getD k 0
def WordsOK (gi : GI) : Prop := ∀ j, j < 65 → gi 67 0 j = n32 (wbs.getD j 0)
theorem woff_n : ∀ k, k < 14 → woff (k + 1) + (wd (cw (k + 1))).length + 1 = woff (k + 2) ∧ woff (k + 2) ≤ 65 ∧ wbs.getD (woff (k + 1) + (wd (cw (k + 1))).length) 0 = 32 := by decide
theorem woff_c : ∀ k, k < 14 → ∀ i, i < (wd (cw (k + 1))).length → wbs.getD (woff (k + 1) + i) 0 = (wd (cw (k + 1))).getD i 0 ∧ (wd (cw (k + 1))).getD i 0 ≠ 32 := by decide
theorem c_M_wordOf (d : Nat) {gi : GI} {g : AG} {Q : Option AV → AH → Prop} (hG : GOK g) {a z : Nat} {B : Nat → Nat} (hW : WordsOK gi) (hT : TapeM gi B) (haz : a ≤ z) (hz : z ≤ 400) : ax_call (d + 1) m_M_wordOf [.inr (.inr (some (12, 0))), .inl (n32 a), .inl (n32 z)] (gi, g) Q = Q (some (.inl (n32 (codeOf (sl B a z))))) (gi, g) := by
  have e1 : n32 z - n32 a = n32 (z - a) := n32_sub haz
  have key := loop_up (n := 14) (P := fun i => codeOf (sl B a z) = cF (sl B a z) (14 - i) (i + 1) → ∀ o5 o6 o7, Runs d (m_M_wordOf, 5, [some (.inr (.inr (some (12, 0)))), some (.inl (n32 a)), some (.inl (n32 z)), some (.inl (n32 (i + 1))), some (.inl (n32 (woff (i + 1)))), o5, o6, o7], []) (gi, g) Q = Q (some (.inl (n32 (codeOf (sl B a z))))) (gi, g)) ?_ ?_
  · rw [e_M_wordOf, b_M_wordOf_0]
    exact key 0 (Nat.zero_le _) rfl _ _ _
  · intro k hk ih hpre o5 o6 o7
    obtain ⟨w1, w2, w3⟩ := woff_n k hk
    have wc := woff_c k hk
    have hl := wd_len (cw (k + 1)) (by unfold cw; split <;> omega)
    have hcw : cw (k + 1) < 14 := by unfold cw; split <;> omega
    have hfuel : cF (sl B a z) (14 - k) (k + 1) = if wd (cw (k + 1)) = sl B a z then k + 1 else cF (sl B a z) (14 - (k + 1)) (k + 1 + 1) := by
      rw [show 14 - k = (14 - (k + 1)) + 1 by omega]
      rfl
    rw [hfuel] at hpre
    generalize hlen : (wd (cw (k + 1))).length = len at *
    have hlt : woff (k + 1) < 65 := by omega
    -- no such word: on
    have nxt : wd (cw (k + 1)) ≠ sl B a z → ∀ (o5 : Int32) o6 o7, o5 = n32 len → Runs d (m_M_wordOf, 111, [some (.inr (.inr (some (12, 0)))), some (.inl (n32 a)), some (.inl (n32 z)), some (.inl (n32 (k + 1))), some (.inl (n32 (woff (k + 1)))), some (.inl o5), o6, o7], []) (gi, g) Q = Q (some (.inl (n32 (codeOf (sl B a z))))) (gi, g) := by
      intro hne o5 o6 o7 h5
      rw [if_neg hne] at hpre
      subst h5
      simp only [b_M_wordOf_111, n32_add]
      rw [← Nat.add_assoc, w1]
      exact ih hpre _ _ _
    -- compared
    have cmpr : len = z - a → ∀ f i, i + f = len → (∀ j, j < i → (wd (cw (k + 1))).getD j 0 = B (a + j)) → Runs d (m_M_wordOf, 57, [some (.inr (.inr (some (12, 0)))), some (.inl (n32 a)), some (.inl (n32 z)), some (.inl (n32 (k + 1))), some (.inl (n32 (woff (k + 1)))), some (.inl (n32 len)), some (.inl (n32 1)), some (.inl (n32 i))], []) (gi, g) Q = Q (some (.inl (n32 (codeOf (sl B a z))))) (gi, g) := by
      intro hlz f
      induction f with
      | zero =>
        intro i hi hp
        have e : i = len := by omega
        subst e
        have hy : wd (cw (k + 1)) = sl B a z := sl_iff.mpr ⟨by omega, fun j hj => hp j (by omega)⟩
        rw [b_M_wordOf_57]
        simp (disch := omega) only [b_M_wordOf_104, b_M_wordOf_109, n32_add, n32_mul, n32_lt, n32_le, n32_eq, n32_clamp, n32_inT, n32_div, n32_rem, n32_m1, n32_m1', n32_m1lt, n32_ltm1, n32_10, n32_01, Nat.not_lt_zero, Nat.lt_irrefl, Nat.mul_zero, Nat.zero_mul, Nat.zero_add, Nat.add_zero, Nat.reduceEqDiff, Nat.one_ne_zero, Nat.zero_ne_one, ax_psh_none, ax_psh_some, true_and, and_true, and_false, false_and, not_true_eq_false, not_false_eq_true, true_imp_iff, false_imp_iff, imp_self, or_true, true_or, or_false, false_or, and_self, ite_true, ite_false, if_true, if_false]
        rw [hpre, if_pos hy]
      | succ f ihf =>
        intro i hi hp
        have hil : i < len := by omega
        have ht := hT (a + i) (by omega)
        have hwc := wc i (by omega)
        have hch := wd_ch (cw (k + 1)) hcw i (by omega)
        have hwd := hW (woff (k + 1) + i) (by omega)
        rw [hwc.1] at hwd
        have heq := SB_eq' ht hch
        rw [b_M_wordOf_57]
        by_cases he : (wd (cw (k + 1))).getD i 0 = B (a + i)
        · simp (disch := omega) only [b_M_wordOf_64, b_M_wordOf_69, b_M_wordOf_91, b_M_wordOf_96, hil, G_0_0 hG, G_0_1 hG, G_0_2 hG, G_0_3 hG, G_0_7 hG, G_0_10 hG, G_0_12 hG, G_0_13 hG, G_0_14 hG, G_0_15 hG, G_0_16 hG, G_0_17 hG, G_1_0 hG, G_1_2 hG, G_1_5 hG, G_2_4 hG, G_2_5 hG, G_3_5 hG, G_3_6 hG, G_3_7 hG, G_3_8 hG, G_3_9 hG, G_5_0 hG, G_5_1 hG, G_6_0 hG, G_6_1 hG, G_6_2 hG, G_6_9 hG, G_6_10 hG, G_6_11 hG, G_6_12 hG, G_6_13 hG, G_7_0 hG, G_7_5 hG, G_8_8 hG, G_8_9 hG, G_9_8 hG, G_9_9 hG, G_10_7 hG, G_10_8 hG, G_10_9 hG, G_10_10 hG, G_10_11 hG, G_11_0 hG, G_12_2 hG, G_12_3 hG, G_12_4 hG, G_12_5 hG, G_12_7 hG, G_12_8 hG, G_12_9 hG, G_12_12 hG, G_12_13 hG, G_12_14 hG, G_12_22 hG, G_12_23 hG, G_12_29 hG, G_12_30 hG, G_12_31 hG, G_12_37 hG, G_12_38 hG, G_12_39 hG, G_12_40 hG, G_12_41 hG, G_12_43 hG, G_12_46 hG, G_12_47 hG, G_12_48 hG, G_25 hG, G_26 hG, G_47 hG, G_58 hG, hwd, heq.mpr he, n32_add, n32_mul, n32_lt, n32_le, n32_eq, n32_clamp, n32_inT, n32_div, n32_rem, n32_m1, n32_m1', n32_m1lt, n32_ltm1, n32_10, n32_01, Nat.not_lt_zero, Nat.lt_irrefl, Nat.mul_zero, Nat.zero_mul, Nat.zero_add, Nat.add_zero, Nat.reduceEqDiff, Nat.one_ne_zero, Nat.zero_ne_one, ax_psh_none, ax_psh_some, true_and, and_true, and_false, false_and, not_true_eq_false, not_false_eq_true, true_imp_iff, false_imp_iff, imp_self, or_true, true_or, or_false, false_or, and_self, ite_true, ite_false, if_true, if_false]
          exact ihf (i + 1) (by omega) (fun j hj => by
            by_cases e : j = i
            · subst e
              exact he
            · exact hp j (by omega))
        · have hne : wd (cw (k + 1)) ≠ sl B a z := fun q => he ((sl_iff.mp q).2 i (by omega))
          have hn2 : ¬ n32 ((wd (cw (k + 1))).getD i 0) = gi 68 0 (a + i) := fun q => he (heq.mp q)
          simp (disch := omega) only [b_M_wordOf_64, b_M_wordOf_69, b_M_wordOf_95, b_M_wordOf_96, hil, G_0_0 hG, G_0_1 hG, G_0_2 hG, G_0_3 hG, G_0_7 hG, G_0_10 hG, G_0_12 hG, G_0_13 hG, G_0_14 hG, G_0_15 hG, G_0_16 hG, G_0_17 hG, G_1_0 hG, G_1_2 hG, G_1_5 hG, G_2_4 hG, G_2_5 hG, G_3_5 hG, G_3_6 hG, G_3_7 hG, G_3_8 hG, G_3_9 hG, G_5_0 hG, G_5_1 hG, G_6_0 hG, G_6_1 hG, G_6_2 hG, G_6_9 hG, G_6_10 hG, G_6_11 hG, G_6_12 hG, G_6_13 hG, G_7_0 hG, G_7_5 hG, G_8_8 hG, G_8_9 hG, G_9_8 hG, G_9_9 hG, G_10_7 hG, G_10_8 hG, G_10_9 hG, G_10_10 hG, G_10_11 hG, G_11_0 hG, G_12_2 hG, G_12_3 hG, G_12_4 hG, G_12_5 hG, G_12_7 hG, G_12_8 hG, G_12_9 hG, G_12_12 hG, G_12_13 hG, G_12_14 hG, G_12_22 hG, G_12_23 hG, G_12_29 hG, G_12_30 hG, G_12_31 hG, G_12_37 hG, G_12_38 hG, G_12_39 hG, G_12_40 hG, G_12_41 hG, G_12_43 hG, G_12_46 hG, G_12_47 hG, G_12_48 hG, G_25 hG, G_26 hG, G_47 hG, G_58 hG, hwd, hn2, n32_add, n32_mul, n32_lt, n32_le, n32_eq, n32_clamp, n32_inT, n32_div, n32_rem, n32_m1, n32_m1', n32_m1lt, n32_ltm1, n32_10, n32_01, Nat.not_lt_zero, Nat.lt_irrefl, Nat.mul_zero, Nat.zero_mul, Nat.zero_add, Nat.add_zero, Nat.reduceEqDiff, Nat.one_ne_zero, Nat.zero_ne_one, ax_psh_none, ax_psh_some, true_and, and_true, and_false, false_and, not_true_eq_false, not_false_eq_true, true_imp_iff, false_imp_iff, imp_self, or_true, true_or, or_false, false_or, and_self, ite_true, ite_false, if_true, if_false]
          rw [b_M_wordOf_57]
          have z1 : ∀ o7, Runs d (m_M_wordOf, 104, [some (.inr (.inr (some (12, 0)))), some (.inl (n32 a)), some (.inl (n32 z)), some (.inl (n32 (k + 1))), some (.inl (n32 (woff (k + 1)))), some (.inl (n32 len)), some (.inl (n32 0)), o7], []) (gi, g) Q = Q (some (.inl (n32 (codeOf (sl B a z))))) (gi, g) := by
            intro o7
            simp only [b_M_wordOf_104, ax_psh_none, ax_psh_some, true_and, and_true, and_false, false_and, not_true_eq_false, not_false_eq_true, true_imp_iff, false_imp_iff, imp_self, or_true, true_or, or_false, false_or, and_self, ite_true, ite_false, if_true, if_false]
            exact nxt hne _ _ _ rfl
          refine bq_both (fun _ => ?_) (fun _ => z1 _)
          simp only [b_M_wordOf_64, ax_psh_none, ax_psh_some, true_and, and_true, and_false, false_and, not_true_eq_false, not_false_eq_true, true_imp_iff, false_imp_iff, imp_self, or_true, true_or, or_false, false_or, and_self, ite_true, ite_false, if_true, if_false]
          exact z1 _
    -- its length counted
    have cnt : ∀ f i, i + f = len → ∀ o6 o7, Runs d (m_M_wordOf, 18, [some (.inr (.inr (some (12, 0)))), some (.inl (n32 a)), some (.inl (n32 z)), some (.inl (n32 (k + 1))), some (.inl (n32 (woff (k + 1)))), some (.inl (n32 i)), o6, o7], []) (gi, g) Q = Q (some (.inl (n32 (codeOf (sl B a z))))) (gi, g) := by
      intro f
      induction f with
      | zero =>
        intro i hi o6 o7
        have e : i = len := by omega
        subst e
        have hwd := hW (woff (k + 1) + i) (by omega)
        rw [w3] at hwd
        rw [b_M_wordOf_18]
        by_cases hlz : i = z - a
        · simp (disch := omega) only [b_M_wordOf_39, b_M_wordOf_47, b_M_wordOf_52, G_0_0 hG, G_0_1 hG, G_0_2 hG, G_0_3 hG, G_0_7 hG, G_0_10 hG, G_0_12 hG, G_0_13 hG, G_0_14 hG, G_0_15 hG, G_0_16 hG, G_0_17 hG, G_1_0 hG, G_1_2 hG, G_1_5 hG, G_2_4 hG, G_2_5 hG, G_3_5 hG, G_3_6 hG, G_3_7 hG, G_3_8 hG, G_3_9 hG, G_5_0 hG, G_5_1 hG, G_6_0 hG, G_6_1 hG, G_6_2 hG, G_6_9 hG, G_6_10 hG, G_6_11 hG, G_6_12 hG, G_6_13 hG, G_7_0 hG, G_7_5 hG, G_8_8 hG, G_8_9 hG, G_9_8 hG, G_9_9 hG, G_10_7 hG, G_10_8 hG, G_10_9 hG, G_10_10 hG, G_10_11 hG, G_11_0 hG, G_12_2 hG, G_12_3 hG, G_12_4 hG, G_12_5 hG, G_12_7 hG, G_12_8 hG, G_12_9 hG, G_12_12 hG, G_12_13 hG, G_12_14 hG, G_12_22 hG, G_12_23 hG, G_12_29 hG, G_12_30 hG, G_12_31 hG, G_12_37 hG, G_12_38 hG, G_12_39 hG, G_12_40 hG, G_12_41 hG, G_12_43 hG, G_12_46 hG, G_12_47 hG, G_12_48 hG, G_25 hG, G_26 hG, G_47 hG, G_58 hG, hwd, e1, hlz.symm, n32_add, n32_mul, n32_lt, n32_le, n32_eq, n32_clamp, n32_inT, n32_div, n32_rem, n32_m1, n32_m1', n32_m1lt, n32_ltm1, n32_10, n32_01, Nat.not_lt_zero, Nat.lt_irrefl, Nat.mul_zero, Nat.zero_mul, Nat.zero_add, Nat.add_zero, Nat.reduceEqDiff, Nat.one_ne_zero, Nat.zero_ne_one, ax_psh_none, ax_psh_some, true_and, and_true, and_false, false_and, not_true_eq_false, not_false_eq_true, true_imp_iff, false_imp_iff, imp_self, or_true, true_or, or_false, false_or, and_self, ite_true, ite_false, if_true, if_false]
          exact cmpr hlz i 0 (by omega) (fun j hj => absurd hj (Nat.not_lt_zero j))
        · have hne : wd (cw (k + 1)) ≠ sl B a z := fun q => hlz (by rw [← hlen]; exact (sl_iff.mp q).1)
          simp (disch := omega) only [b_M_wordOf_39, b_M_wordOf_51, b_M_wordOf_52, G_0_0 hG, G_0_1 hG, G_0_2 hG, G_0_3 hG, G_0_7 hG, G_0_10 hG, G_0_12 hG, G_0_13 hG, G_0_14 hG, G_0_15 hG, G_0_16 hG, G_0_17 hG, G_1_0 hG, G_1_2 hG, G_1_5 hG, G_2_4 hG, G_2_5 hG, G_3_5 hG, G_3_6 hG, G_3_7 hG, G_3_8 hG, G_3_9 hG, G_5_0 hG, G_5_1 hG, G_6_0 hG, G_6_1 hG, G_6_2 hG, G_6_9 hG, G_6_10 hG, G_6_11 hG, G_6_12 hG, G_6_13 hG, G_7_0 hG, G_7_5 hG, G_8_8 hG, G_8_9 hG, G_9_8 hG, G_9_9 hG, G_10_7 hG, G_10_8 hG, G_10_9 hG, G_10_10 hG, G_10_11 hG, G_11_0 hG, G_12_2 hG, G_12_3 hG, G_12_4 hG, G_12_5 hG, G_12_7 hG, G_12_8 hG, G_12_9 hG, G_12_12 hG, G_12_13 hG, G_12_14 hG, G_12_22 hG, G_12_23 hG, G_12_29 hG, G_12_30 hG, G_12_31 hG, G_12_37 hG, G_12_38 hG, G_12_39 hG, G_12_40 hG, G_12_41 hG, G_12_43 hG, G_12_46 hG, G_12_47 hG, G_12_48 hG, G_25 hG, G_26 hG, G_47 hG, G_58 hG, hwd, e1, hlz, n32_add, n32_mul, n32_lt, n32_le, n32_eq, n32_clamp, n32_inT, n32_div, n32_rem, n32_m1, n32_m1', n32_m1lt, n32_ltm1, n32_10, n32_01, Nat.not_lt_zero, Nat.lt_irrefl, Nat.mul_zero, Nat.zero_mul, Nat.zero_add, Nat.add_zero, Nat.reduceEqDiff, Nat.one_ne_zero, Nat.zero_ne_one, ax_psh_none, ax_psh_some, true_and, and_true, and_false, false_and, not_true_eq_false, not_false_eq_true, true_imp_iff, false_imp_iff, imp_self, or_true, true_or, or_false, false_or, and_self, ite_true, ite_false, if_true, if_false]
          rw [b_M_wordOf_57]
          have hpos : 0 < i := by omega
          simp (disch := omega) only [b_M_wordOf_64, b_M_wordOf_104, hpos, n32_add, n32_mul, n32_lt, n32_le, n32_eq, n32_clamp, n32_inT, n32_div, n32_rem, n32_m1, n32_m1', n32_m1lt, n32_ltm1, n32_10, n32_01, Nat.not_lt_zero, Nat.lt_irrefl, Nat.mul_zero, Nat.zero_mul, Nat.zero_add, Nat.add_zero, Nat.reduceEqDiff, Nat.one_ne_zero, Nat.zero_ne_one, ax_psh_none, ax_psh_some, true_and, and_true, and_false, false_and, not_true_eq_false, not_false_eq_true, true_imp_iff, false_imp_iff, imp_self, or_true, true_or, or_false, false_or, and_self, ite_true, ite_false, if_true, if_false]
          exact nxt hne _ _ _ rfl
      | succ f ihf =>
        intro i hi o6 o7
        have hwc := wc i (by omega)
        have hch := wd_ch (cw (k + 1)) hcw i (by omega)
        have hwd := hW (woff (k + 1) + i) (by omega)
        rw [hwc.1] at hwd
        rw [b_M_wordOf_18]
        simp (disch := omega) only [b_M_wordOf_33, G_0_0 hG, G_0_1 hG, G_0_2 hG, G_0_3 hG, G_0_7 hG, G_0_10 hG, G_0_12 hG, G_0_13 hG, G_0_14 hG, G_0_15 hG, G_0_16 hG, G_0_17 hG, G_1_0 hG, G_1_2 hG, G_1_5 hG, G_2_4 hG, G_2_5 hG, G_3_5 hG, G_3_6 hG, G_3_7 hG, G_3_8 hG, G_3_9 hG, G_5_0 hG, G_5_1 hG, G_6_0 hG, G_6_1 hG, G_6_2 hG, G_6_9 hG, G_6_10 hG, G_6_11 hG, G_6_12 hG, G_6_13 hG, G_7_0 hG, G_7_5 hG, G_8_8 hG, G_8_9 hG, G_9_8 hG, G_9_9 hG, G_10_7 hG, G_10_8 hG, G_10_9 hG, G_10_10 hG, G_10_11 hG, G_11_0 hG, G_12_2 hG, G_12_3 hG, G_12_4 hG, G_12_5 hG, G_12_7 hG, G_12_8 hG, G_12_9 hG, G_12_12 hG, G_12_13 hG, G_12_14 hG, G_12_22 hG, G_12_23 hG, G_12_29 hG, G_12_30 hG, G_12_31 hG, G_12_37 hG, G_12_38 hG, G_12_39 hG, G_12_40 hG, G_12_41 hG, G_12_43 hG, G_12_46 hG, G_12_47 hG, G_12_48 hG, G_25 hG, G_26 hG, G_47 hG, G_58 hG, hwd, hwc.2, n32_add, n32_mul, n32_lt, n32_le, n32_eq, n32_clamp, n32_inT, n32_div, n32_rem, n32_m1, n32_m1', n32_m1lt, n32_ltm1, n32_10, n32_01, Nat.not_lt_zero, Nat.lt_irrefl, Nat.mul_zero, Nat.zero_mul, Nat.zero_add, Nat.add_zero, Nat.reduceEqDiff, Nat.one_ne_zero, Nat.zero_ne_one, ax_psh_none, ax_psh_some, true_and, and_true, and_false, false_and, not_true_eq_false, not_false_eq_true, true_imp_iff, false_imp_iff, imp_self, or_true, true_or, or_false, false_or, and_self, ite_true, ite_false, if_true, if_false]
        exact ihf (i + 1) (by omega) _ _
    rw [b_M_wordOf_5]
    simp (disch := omega) only [b_M_wordOf_15, hlt, G_0_0 hG, G_0_1 hG, G_0_2 hG, G_0_3 hG, G_0_7 hG, G_0_10 hG, G_0_12 hG, G_0_13 hG, G_0_14 hG, G_0_15 hG, G_0_16 hG, G_0_17 hG, G_1_0 hG, G_1_2 hG, G_1_5 hG, G_2_4 hG, G_2_5 hG, G_3_5 hG, G_3_6 hG, G_3_7 hG, G_3_8 hG, G_3_9 hG, G_5_0 hG, G_5_1 hG, G_6_0 hG, G_6_1 hG, G_6_2 hG, G_6_9 hG, G_6_10 hG, G_6_11 hG, G_6_12 hG, G_6_13 hG, G_7_0 hG, G_7_5 hG, G_8_8 hG, G_8_9 hG, G_9_8 hG, G_9_9 hG, G_10_7 hG, G_10_8 hG, G_10_9 hG, G_10_10 hG, G_10_11 hG, G_11_0 hG, G_12_2 hG, G_12_3 hG, G_12_4 hG, G_12_5 hG, G_12_7 hG, G_12_8 hG, G_12_9 hG, G_12_12 hG, G_12_13 hG, G_12_14 hG, G_12_22 hG, G_12_23 hG, G_12_29 hG, G_12_30 hG, G_12_31 hG, G_12_37 hG, G_12_38 hG, G_12_39 hG, G_12_40 hG, G_12_41 hG, G_12_43 hG, G_12_46 hG, G_12_47 hG, G_12_48 hG, G_25 hG, G_26 hG, G_47 hG, G_58 hG, n32_add, n32_mul, n32_lt, n32_le, n32_eq, n32_clamp, n32_inT, n32_div, n32_rem, n32_m1, n32_m1', n32_m1lt, n32_ltm1, n32_10, n32_01, Nat.not_lt_zero, Nat.lt_irrefl, Nat.mul_zero, Nat.zero_mul, Nat.zero_add, Nat.add_zero, Nat.reduceEqDiff, Nat.one_ne_zero, Nat.zero_ne_one, ax_psh_none, ax_psh_some, true_and, and_true, and_false, false_and, not_true_eq_false, not_false_eq_true, true_imp_iff, false_imp_iff, imp_self, or_true, true_or, or_false, false_or, and_self, ite_true, ite_false, if_true, if_false]
    exact cnt len 0 (by omega) _ _
  · intro hpre o5 o6 o7
    rw [b_M_wordOf_5, show woff (14 + 1) = 65 from rfl]
    simp (disch := omega) only [b_M_wordOf_126, G_0_0 hG, G_0_1 hG, G_0_2 hG, G_0_3 hG, G_0_7 hG, G_0_10 hG, G_0_12 hG, G_0_13 hG, G_0_14 hG, G_0_15 hG, G_0_16 hG, G_0_17 hG, G_1_0 hG, G_1_2 hG, G_1_5 hG, G_2_4 hG, G_2_5 hG, G_3_5 hG, G_3_6 hG, G_3_7 hG, G_3_8 hG, G_3_9 hG, G_5_0 hG, G_5_1 hG, G_6_0 hG, G_6_1 hG, G_6_2 hG, G_6_9 hG, G_6_10 hG, G_6_11 hG, G_6_12 hG, G_6_13 hG, G_7_0 hG, G_7_5 hG, G_8_8 hG, G_8_9 hG, G_9_8 hG, G_9_9 hG, G_10_7 hG, G_10_8 hG, G_10_9 hG, G_10_10 hG, G_10_11 hG, G_11_0 hG, G_12_2 hG, G_12_3 hG, G_12_4 hG, G_12_5 hG, G_12_7 hG, G_12_8 hG, G_12_9 hG, G_12_12 hG, G_12_13 hG, G_12_14 hG, G_12_22 hG, G_12_23 hG, G_12_29 hG, G_12_30 hG, G_12_31 hG, G_12_37 hG, G_12_38 hG, G_12_39 hG, G_12_40 hG, G_12_41 hG, G_12_43 hG, G_12_46 hG, G_12_47 hG, G_12_48 hG, G_25 hG, G_26 hG, G_47 hG, G_58 hG, n32_add, n32_mul, n32_lt, n32_le, n32_eq, n32_clamp, n32_inT, n32_div, n32_rem, n32_m1, n32_m1', n32_m1lt, n32_ltm1, n32_10, n32_01, Nat.not_lt_zero, Nat.lt_irrefl, Nat.mul_zero, Nat.zero_mul, Nat.zero_add, Nat.add_zero, Nat.reduceEqDiff, Nat.one_ne_zero, Nat.zero_ne_one, ax_psh_none, ax_psh_some, true_and, and_true, and_false, false_and, not_true_eq_false, not_false_eq_true, true_imp_iff, false_imp_iff, imp_self, or_true, true_or, or_false, false_or, and_self, ite_true, ite_false, if_true, if_false]
    rw [hpre]
    rfl
/-! numbers -/
def yV (B : Nat → Nat) : Nat → Nat → Nat → Nat
  | 0, _, y => y
  | f + 1, i, y => yV B f (i + 1) (if 1000000 < y then y else 10 * y + (B i - 48))
theorem yV_le {B : Nat → Nat} : ∀ {f i y : Nat}, y ≤ 20000000 → (∀ j, i ≤ j → j < i + f → B j ≤ 57) → yV B f i y ≤ 20000000
  | 0, _, _, h, _ => h
  | f + 1, i, y, h, hB => by
    unfold yV
    refine yV_le ?_ (fun j h1 h2 => hB j (by omega) (by omega))
    have := hB i (by omega) (by omega)
    split <;> omega
theorem yV_nV {B : Nat → Nat} : ∀ {f i x y : Nat}, min y 1001 = x → min (yV B f i y) 1001 = nV B f i x
  | 0, _, _, _, h => h
  | f + 1, i, x, y, h => by
    unfold yV nV
    refine yV_nV ?_
    split <;> omega
def smMod (s j : Nat) : Bool := (s == 12 && j == 15) || s == 70 || s == 71 || s == 72
theorem TapeM_fr {gi gi' : GI} {B : Nat → Nat} (h : TapeM gi B) (hf : Fr smMod gi gi') : TapeM gi' B := fun i hi => by
  rw [hf 68 0 i rfl]
  exact h i hi
theorem WordsOK_fr {gi gi' : GI} (h : WordsOK gi) (hf : Fr smMod gi gi') : WordsOK gi' := fun j hj => (hf 67 0 j rfl).trans (h j hj)
theorem kb_digit {b : Nat} (h : kb b = 1) : 48 ≤ b ∧ b ≤ 57 := by
  unfold kb at h
  split at h
  · omega
  · split at h
    · assumption
    · omega
theorem ww71 (gi : GI) (i : Nat) (x y : Int32) : ax_wI (ax_wI gi 71 0 i x) 71 0 i y = ax_wI gi 71 0 i y := by
  funext s a j
  simp only [wI_at]
  split <;> rfl
theorem sm_num {B : Nat → Nat} {n z i d : Nat} {x3 : Int32} {b : Nat} {g : AG} {gi : GI} {Q : Option AV → AH → Prop} (hG : GOK g) (hT : TapeM gi B) (hz : z ≤ 400) (hb : SB x3 b) (hkb : kb b = 1) (hi : gi 12 0 15 = n32 i) (hi4 : i ≤ 400) : ∀ f j y, j + f = z → (∀ q, j ≤ q → q < z → kb (B q) = 1) → y ≤ 20000000 → ∀ o2, (∀ o2 o5, Runs (d + 1) (m_M_splits, 247, [some (.inr (.inr (some (12, 0)))), some (.inl (n32 n)), o2, some (.inl x3), some (.inl (n32 z)), o5], []) (ax_wI gi 71 0 i (n32 (yV B f j y)), g) Q) → Runs (d + 1) (m_M_splits, 169, [some (.inr (.inr (some (12, 0)))), some (.inl (n32 n)), o2, some (.inl x3), some (.inl (n32 z)), some (.inl (n32 j))], []) (ax_wI gi 71 0 i (n32 y), g) Q := by
  intro f
  induction f with
  | zero =>
    intro j y hj hk hy o2 hq
    have e : j = z := by omega
    subst e
    rw [b_M_splits_169]
    simp (disch := omega) only [n32_add, n32_mul, n32_lt, n32_le, n32_eq, n32_clamp, n32_inT, n32_div, n32_rem, n32_m1, n32_m1', n32_m1lt, n32_ltm1, n32_10, n32_01, Nat.not_lt_zero, Nat.lt_irrefl, Nat.mul_zero, Nat.zero_mul, Nat.zero_add, Nat.add_zero, Nat.reduceEqDiff, Nat.one_ne_zero, Nat.zero_ne_one, ax_psh_none, ax_psh_some, true_and, and_true, and_false, false_and, not_true_eq_false, not_false_eq_true, true_imp_iff, false_imp_iff, imp_self, or_true, true_or, or_false, false_or, and_self, ite_true, ite_false, if_true, if_false]
    exact hq _ _
  | succ f ih =>
    intro j y hj hk hy o2 hq
    have hlt : j < z := by omega
    have hd := kb_digit (hk j (by omega) (by omega))
    have ht := hT j (by omega)
    have hv : gi 68 0 j = n32 (B j) := ht.2.1 (by omega)
    have w15 : ∀ x, ax_wI gi 71 0 i x 12 0 15 = n32 i := fun x => by simp [wI_at, hi]
    have w71 : ∀ x, ax_wI gi 71 0 i x 71 0 i = x := fun x => by simp [wI_at]
    have w68 : ∀ x, ax_wI gi 71 0 i x 68 0 j = n32 (B j) := fun x => by simp [wI_at, hv]
    have hT2 : decide (kb b = 1) = true := decide_eq_true hkb
    have step := ih (j + 1) (if 1000000 < y then y else 10 * y + (B j - 48)) (by omega) (fun q h1 h2 => hk q (by omega) h2) (by split <;> omega)
    rw [b_M_splits_169]
    by_cases hbig : 1000000 < y
    · simp (disch := omega) only [b_M_splits_176, b_M_splits_180, b_M_splits_183, b_M_splits_205, b_M_splits_240, hlt, c_isDigit _ _ _ _ hb, hT2, b32_1, G_0_0 hG, G_0_1 hG, G_0_2 hG, G_0_3 hG, G_0_7 hG, G_0_10 hG, G_0_12 hG, G_0_13 hG, G_0_14 hG, G_0_15 hG, G_0_16 hG, G_0_17 hG, G_1_0 hG, G_1_2 hG, G_1_5 hG, G_2_4 hG, G_2_5 hG, G_3_5 hG, G_3_6 hG, G_3_7 hG, G_3_8 hG, G_3_9 hG, G_5_0 hG, G_5_1 hG, G_6_0 hG, G_6_1 hG, G_6_2 hG, G_6_9 hG, G_6_10 hG, G_6_11 hG, G_6_12 hG, G_6_13 hG, G_7_0 hG, G_7_5 hG, G_8_8 hG, G_8_9 hG, G_9_8 hG, G_9_9 hG, G_10_7 hG, G_10_8 hG, G_10_9 hG, G_10_10 hG, G_10_11 hG, G_11_0 hG, G_12_2 hG, G_12_3 hG, G_12_4 hG, G_12_5 hG, G_12_7 hG, G_12_8 hG, G_12_9 hG, G_12_12 hG, G_12_13 hG, G_12_14 hG, G_12_22 hG, G_12_23 hG, G_12_29 hG, G_12_30 hG, G_12_31 hG, G_12_37 hG, G_12_38 hG, G_12_39 hG, G_12_40 hG, G_12_41 hG, G_12_43 hG, G_12_46 hG, G_12_47 hG, G_12_48 hG, G_25 hG, G_26 hG, G_47 hG, G_58 hG, w15, w71, hbig, ww71, n32_add, n32_mul, n32_lt, n32_le, n32_eq, n32_clamp, n32_inT, n32_div, n32_rem, n32_m1, n32_m1', n32_m1lt, n32_ltm1, n32_10, n32_01, Nat.not_lt_zero, Nat.lt_irrefl, Nat.mul_zero, Nat.zero_mul, Nat.zero_add, Nat.add_zero, Nat.reduceEqDiff, Nat.one_ne_zero, Nat.zero_ne_one, ax_psh_none, ax_psh_some, true_and, and_true, and_false, false_and, not_true_eq_false, not_false_eq_true, true_imp_iff, false_imp_iff, imp_self, or_true, true_or, or_false, false_or, and_self, ite_true, ite_false, if_true, if_false]
      rw [if_pos hbig] at step
      refine step _ (fun o2 o5 => ?_)
      have := hq o2 o5
      unfold yV at this
      rw [if_pos hbig] at this
      exact this
    · have e2 : n32 (10 * y + B j) - n32 48 = n32 (10 * y + (B j - 48)) := by
        rw [n32_sub (by omega)]
        congr 1
        omega
      simp (disch := omega) only [b_M_splits_176, b_M_splits_180, b_M_splits_183, b_M_splits_217, b_M_splits_240, hlt, c_isDigit _ _ _ _ hb, hT2, b32_1, G_0_0 hG, G_0_1 hG, G_0_2 hG, G_0_3 hG, G_0_7 hG, G_0_10 hG, G_0_12 hG, G_0_13 hG, G_0_14 hG, G_0_15 hG, G_0_16 hG, G_0_17 hG, G_1_0 hG, G_1_2 hG, G_1_5 hG, G_2_4 hG, G_2_5 hG, G_3_5 hG, G_3_6 hG, G_3_7 hG, G_3_8 hG, G_3_9 hG, G_5_0 hG, G_5_1 hG, G_6_0 hG, G_6_1 hG, G_6_2 hG, G_6_9 hG, G_6_10 hG, G_6_11 hG, G_6_12 hG, G_6_13 hG, G_7_0 hG, G_7_5 hG, G_8_8 hG, G_8_9 hG, G_9_8 hG, G_9_9 hG, G_10_7 hG, G_10_8 hG, G_10_9 hG, G_10_10 hG, G_10_11 hG, G_11_0 hG, G_12_2 hG, G_12_3 hG, G_12_4 hG, G_12_5 hG, G_12_7 hG, G_12_8 hG, G_12_9 hG, G_12_12 hG, G_12_13 hG, G_12_14 hG, G_12_22 hG, G_12_23 hG, G_12_29 hG, G_12_30 hG, G_12_31 hG, G_12_37 hG, G_12_38 hG, G_12_39 hG, G_12_40 hG, G_12_41 hG, G_12_43 hG, G_12_46 hG, G_12_47 hG, G_12_48 hG, G_25 hG, G_26 hG, G_47 hG, G_58 hG, w15, w71, w68, hbig, e2, ww71, n32_add, n32_mul, n32_lt, n32_le, n32_eq, n32_clamp, n32_inT, n32_div, n32_rem, n32_m1, n32_m1', n32_m1lt, n32_ltm1, n32_10, n32_01, Nat.not_lt_zero, Nat.lt_irrefl, Nat.mul_zero, Nat.zero_mul, Nat.zero_add, Nat.add_zero, Nat.reduceEqDiff, Nat.one_ne_zero, Nat.zero_ne_one, ax_psh_none, ax_psh_some, true_and, and_true, and_false, false_and, not_true_eq_false, not_false_eq_true, true_imp_iff, false_imp_iff, imp_self, or_true, true_or, or_false, false_or, and_self, ite_true, ite_false, if_true, if_false]
      rw [if_neg hbig] at step
      refine step _ (fun o2 o5 => ?_)
      have := hq o2 o5
      unfold yV at this
      rw [if_neg hbig] at this
      exact this
theorem sm_run43 {B : Nat → Nat} {n a d : Nat} {x3 : Int32} {g : AG} {gi : GI} {Q : Option AV → AH → Prop} (hG : GOK g) (hT : TapeM gi B) (hn : n ≤ 400) : ∀ f t, n ≤ t + f → t ≤ n → ∀ o5, Runs (d + 1) (m_M_splits, 43, [some (.inr (.inr (some (12, 0)))), some (.inl (n32 n)), some (.inl (n32 a)), some (.inl x3), some (.inl (n32 t)), o5], []) (gi, g) Q = Runs (d + 1) (m_M_splits, 68, [some (.inr (.inr (some (12, 0)))), some (.inl (n32 n)), some (.inl (n32 a)), some (.inl x3), some (.inl (n32 (rEnd B n 2 f t))), o5], []) (gi, g) Q := by
  intro f
  induction f with
  | zero =>
    intro t h1 h2 o5
    have hlt : ¬ t < n := by omega
    rw [b_M_splits_43]
    simp (disch := omega) only [hlt, n32_add, n32_mul, n32_lt, n32_le, n32_eq, n32_clamp, n32_inT, n32_div, n32_rem, n32_m1, n32_m1', n32_m1lt, n32_ltm1, n32_10, n32_01, Nat.not_lt_zero, Nat.lt_irrefl, Nat.mul_zero, Nat.zero_mul, Nat.zero_add, Nat.add_zero, Nat.reduceEqDiff, Nat.one_ne_zero, Nat.zero_ne_one, ax_psh_none, ax_psh_some, true_and, and_true, and_false, false_and, not_true_eq_false, not_false_eq_true, true_imp_iff, false_imp_iff, imp_self, or_true, true_or, or_false, false_or, and_self, ite_true, ite_false, if_true, if_false]
    rfl
  | succ f ih =>
    intro t h1 h2 o5
    rw [b_M_splits_43]
    by_cases hlt : t < n
    · have ht := hT t (by omega)
      by_cases hkk : kb (B t) = 2
      · have e : rEnd B n 2 (f + 1) t = rEnd B n 2 f (t + 1) := by
          show (if t < n ∧ kb (B t) = 2 then _ else _) = _
          rw [if_pos ⟨hlt, hkk⟩]
        have hT2 : decide (kb (B t) = 2) = true := decide_eq_true hkk
        simp (disch := omega) only [b_M_splits_49, b_M_splits_59, b_M_splits_62, hlt, G_0_0 hG, G_0_1 hG, G_0_2 hG, G_0_3 hG, G_0_7 hG, G_0_10 hG, G_0_12 hG, G_0_13 hG, G_0_14 hG, G_0_15 hG, G_0_16 hG, G_0_17 hG, G_1_0 hG, G_1_2 hG, G_1_5 hG, G_2_4 hG, G_2_5 hG, G_3_5 hG, G_3_6 hG, G_3_7 hG, G_3_8 hG, G_3_9 hG, G_5_0 hG, G_5_1 hG, G_6_0 hG, G_6_1 hG, G_6_2 hG, G_6_9 hG, G_6_10 hG, G_6_11 hG, G_6_12 hG, G_6_13 hG, G_7_0 hG, G_7_5 hG, G_8_8 hG, G_8_9 hG, G_9_8 hG, G_9_9 hG, G_10_7 hG, G_10_8 hG, G_10_9 hG, G_10_10 hG, G_10_11 hG, G_11_0 hG, G_12_2 hG, G_12_3 hG, G_12_4 hG, G_12_5 hG, G_12_7 hG, G_12_8 hG, G_12_9 hG, G_12_12 hG, G_12_13 hG, G_12_14 hG, G_12_22 hG, G_12_23 hG, G_12_29 hG, G_12_30 hG, G_12_31 hG, G_12_37 hG, G_12_38 hG, G_12_39 hG, G_12_40 hG, G_12_41 hG, G_12_43 hG, G_12_46 hG, G_12_47 hG, G_12_48 hG, G_25 hG, G_26 hG, G_47 hG, G_58 hG, c_isSmall _ _ _ _ ht, hT2, b32_1, n32_add, n32_mul, n32_lt, n32_le, n32_eq, n32_clamp, n32_inT, n32_div, n32_rem, n32_m1, n32_m1', n32_m1lt, n32_ltm1, n32_10, n32_01, Nat.not_lt_zero, Nat.lt_irrefl, Nat.mul_zero, Nat.zero_mul, Nat.zero_add, Nat.add_zero, Nat.reduceEqDiff, Nat.one_ne_zero, Nat.zero_ne_one, ax_psh_none, ax_psh_some, true_and, and_true, and_false, false_and, not_true_eq_false, not_false_eq_true, true_imp_iff, false_imp_iff, imp_self, or_true, true_or, or_false, false_or, and_self, ite_true, ite_false, if_true, if_false]
        rw [e]
        exact ih (t + 1) (by omega) (by omega) _
      · have e : rEnd B n 2 (f + 1) t = t := by
          show (if t < n ∧ kb (B t) = 2 then _ else _) = _
          rw [if_neg (fun q => hkk q.2)]
        have hT2 : decide (kb (B t) = 2) = false := decide_eq_false hkk
        simp (disch := omega) only [b_M_splits_49, b_M_splits_59, hlt, G_0_0 hG, G_0_1 hG, G_0_2 hG, G_0_3 hG, G_0_7 hG, G_0_10 hG, G_0_12 hG, G_0_13 hG, G_0_14 hG, G_0_15 hG, G_0_16 hG, G_0_17 hG, G_1_0 hG, G_1_2 hG, G_1_5 hG, G_2_4 hG, G_2_5 hG, G_3_5 hG, G_3_6 hG, G_3_7 hG, G_3_8 hG, G_3_9 hG, G_5_0 hG, G_5_1 hG, G_6_0 hG, G_6_1 hG, G_6_2 hG, G_6_9 hG, G_6_10 hG, G_6_11 hG, G_6_12 hG, G_6_13 hG, G_7_0 hG, G_7_5 hG, G_8_8 hG, G_8_9 hG, G_9_8 hG, G_9_9 hG, G_10_7 hG, G_10_8 hG, G_10_9 hG, G_10_10 hG, G_10_11 hG, G_11_0 hG, G_12_2 hG, G_12_3 hG, G_12_4 hG, G_12_5 hG, G_12_7 hG, G_12_8 hG, G_12_9 hG, G_12_12 hG, G_12_13 hG, G_12_14 hG, G_12_22 hG, G_12_23 hG, G_12_29 hG, G_12_30 hG, G_12_31 hG, G_12_37 hG, G_12_38 hG, G_12_39 hG, G_12_40 hG, G_12_41 hG, G_12_43 hG, G_12_46 hG, G_12_47 hG, G_12_48 hG, G_25 hG, G_26 hG, G_47 hG, G_58 hG, c_isSmall _ _ _ _ ht, hT2, b32_0, e, n32_add, n32_mul, n32_lt, n32_le, n32_eq, n32_clamp, n32_inT, n32_div, n32_rem, n32_m1, n32_m1', n32_m1lt, n32_ltm1, n32_10, n32_01, Nat.not_lt_zero, Nat.lt_irrefl, Nat.mul_zero, Nat.zero_mul, Nat.zero_add, Nat.add_zero, Nat.reduceEqDiff, Nat.one_ne_zero, Nat.zero_ne_one, ax_psh_none, ax_psh_some, true_and, and_true, and_false, false_and, not_true_eq_false, not_false_eq_true, true_imp_iff, false_imp_iff, imp_self, or_true, true_or, or_false, false_or, and_self, ite_true, ite_false, if_true, if_false]
    · have e : rEnd B n 2 (f + 1) t = t := by
        show (if t < n ∧ kb (B t) = 2 then _ else _) = _
        rw [if_neg (fun q => hlt q.1)]
      simp (disch := omega) only [hlt, e, n32_add, n32_mul, n32_lt, n32_le, n32_eq, n32_clamp, n32_inT, n32_div, n32_rem, n32_m1, n32_m1', n32_m1lt, n32_ltm1, n32_10, n32_01, Nat.not_lt_zero, Nat.lt_irrefl, Nat.mul_zero, Nat.zero_mul, Nat.zero_add, Nat.add_zero, Nat.reduceEqDiff, Nat.one_ne_zero, Nat.zero_ne_one, ax_psh_none, ax_psh_some, true_and, and_true, and_false, false_and, not_true_eq_false, not_false_eq_true, true_imp_iff, false_imp_iff, imp_self, or_true, true_or, or_false, false_or, and_self, ite_true, ite_false, if_true, if_false]
theorem sm_run75 {B : Nat → Nat} {n a d : Nat} {x3 : Int32} {g : AG} {gi : GI} {Q : Option AV → AH → Prop} (hG : GOK g) (hT : TapeM gi B) (hn : n ≤ 400) : ∀ f t, n ≤ t + f → t ≤ n → ∀ o5, Runs (d + 1) (m_M_splits, 75, [some (.inr (.inr (some (12, 0)))), some (.inl (n32 n)), some (.inl (n32 a)), some (.inl x3), some (.inl (n32 t)), o5], []) (gi, g) Q = Runs (d + 1) (m_M_splits, 100, [some (.inr (.inr (some (12, 0)))), some (.inl (n32 n)), some (.inl (n32 a)), some (.inl x3), some (.inl (n32 (rEnd B n 1 f t))), o5], []) (gi, g) Q := by
  intro f
  induction f with
  | zero =>
    intro t h1 h2 o5
    have hlt : ¬ t < n := by omega
    rw [b_M_splits_75]
    simp (disch := omega) only [hlt, n32_add, n32_mul, n32_lt, n32_le, n32_eq, n32_clamp, n32_inT, n32_div, n32_rem, n32_m1, n32_m1', n32_m1lt, n32_ltm1, n32_10, n32_01, Nat.not_lt_zero, Nat.lt_irrefl, Nat.mul_zero, Nat.zero_mul, Nat.zero_add, Nat.add_zero, Nat.reduceEqDiff, Nat.one_ne_zero, Nat.zero_ne_one, ax_psh_none, ax_psh_some, true_and, and_true, and_false, false_and, not_true_eq_false, not_false_eq_true, true_imp_iff, false_imp_iff, imp_self, or_true, true_or, or_false, false_or, and_self, ite_true, ite_false, if_true, if_false]
    rfl
  | succ f ih =>
    intro t h1 h2 o5
    rw [b_M_splits_75]
    by_cases hlt : t < n
    · have ht := hT t (by omega)
      by_cases hkk : kb (B t) = 1
      · have e : rEnd B n 1 (f + 1) t = rEnd B n 1 f (t + 1) := by
          show (if t < n ∧ kb (B t) = 1 then _ else _) = _
          rw [if_pos ⟨hlt, hkk⟩]
        have hT2 : decide (kb (B t) = 1) = true := decide_eq_true hkk
        simp (disch := omega) only [b_M_splits_81, b_M_splits_91, b_M_splits_94, hlt, G_0_0 hG, G_0_1 hG, G_0_2 hG, G_0_3 hG, G_0_7 hG, G_0_10 hG, G_0_12 hG, G_0_13 hG, G_0_14 hG, G_0_15 hG, G_0_16 hG, G_0_17 hG, G_1_0 hG, G_1_2 hG, G_1_5 hG, G_2_4 hG, G_2_5 hG, G_3_5 hG, G_3_6 hG, G_3_7 hG, G_3_8 hG, G_3_9 hG, G_5_0 hG, G_5_1 hG, G_6_0 hG, G_6_1 hG, G_6_2 hG, G_6_9 hG, G_6_10 hG, G_6_11 hG, G_6_12 hG, G_6_13 hG, G_7_0 hG, G_7_5 hG, G_8_8 hG, G_8_9 hG, G_9_8 hG, G_9_9 hG, G_10_7 hG, G_10_8 hG, G_10_9 hG, G_10_10 hG, G_10_11 hG, G_11_0 hG, G_12_2 hG, G_12_3 hG, G_12_4 hG, G_12_5 hG, G_12_7 hG, G_12_8 hG, G_12_9 hG, G_12_12 hG, G_12_13 hG, G_12_14 hG, G_12_22 hG, G_12_23 hG, G_12_29 hG, G_12_30 hG, G_12_31 hG, G_12_37 hG, G_12_38 hG, G_12_39 hG, G_12_40 hG, G_12_41 hG, G_12_43 hG, G_12_46 hG, G_12_47 hG, G_12_48 hG, G_25 hG, G_26 hG, G_47 hG, G_58 hG, c_isDigit _ _ _ _ ht, hT2, b32_1, n32_add, n32_mul, n32_lt, n32_le, n32_eq, n32_clamp, n32_inT, n32_div, n32_rem, n32_m1, n32_m1', n32_m1lt, n32_ltm1, n32_10, n32_01, Nat.not_lt_zero, Nat.lt_irrefl, Nat.mul_zero, Nat.zero_mul, Nat.zero_add, Nat.add_zero, Nat.reduceEqDiff, Nat.one_ne_zero, Nat.zero_ne_one, ax_psh_none, ax_psh_some, true_and, and_true, and_false, false_and, not_true_eq_false, not_false_eq_true, true_imp_iff, false_imp_iff, imp_self, or_true, true_or, or_false, false_or, and_self, ite_true, ite_false, if_true, if_false]
        rw [e]
        exact ih (t + 1) (by omega) (by omega) _
      · have e : rEnd B n 1 (f + 1) t = t := by
          show (if t < n ∧ kb (B t) = 1 then _ else _) = _
          rw [if_neg (fun q => hkk q.2)]
        have hT2 : decide (kb (B t) = 1) = false := decide_eq_false hkk
        simp (disch := omega) only [b_M_splits_81, b_M_splits_91, hlt, G_0_0 hG, G_0_1 hG, G_0_2 hG, G_0_3 hG, G_0_7 hG, G_0_10 hG, G_0_12 hG, G_0_13 hG, G_0_14 hG, G_0_15 hG, G_0_16 hG, G_0_17 hG, G_1_0 hG, G_1_2 hG, G_1_5 hG, G_2_4 hG, G_2_5 hG, G_3_5 hG, G_3_6 hG, G_3_7 hG, G_3_8 hG, G_3_9 hG, G_5_0 hG, G_5_1 hG, G_6_0 hG, G_6_1 hG, G_6_2 hG, G_6_9 hG, G_6_10 hG, G_6_11 hG, G_6_12 hG, G_6_13 hG, G_7_0 hG, G_7_5 hG, G_8_8 hG, G_8_9 hG, G_9_8 hG, G_9_9 hG, G_10_7 hG, G_10_8 hG, G_10_9 hG, G_10_10 hG, G_10_11 hG, G_11_0 hG, G_12_2 hG, G_12_3 hG, G_12_4 hG, G_12_5 hG, G_12_7 hG, G_12_8 hG, G_12_9 hG, G_12_12 hG, G_12_13 hG, G_12_14 hG, G_12_22 hG, G_12_23 hG, G_12_29 hG, G_12_30 hG, G_12_31 hG, G_12_37 hG, G_12_38 hG, G_12_39 hG, G_12_40 hG, G_12_41 hG, G_12_43 hG, G_12_46 hG, G_12_47 hG, G_12_48 hG, G_25 hG, G_26 hG, G_47 hG, G_58 hG, c_isDigit _ _ _ _ ht, hT2, b32_0, e, n32_add, n32_mul, n32_lt, n32_le, n32_eq, n32_clamp, n32_inT, n32_div, n32_rem, n32_m1, n32_m1', n32_m1lt, n32_ltm1, n32_10, n32_01, Nat.not_lt_zero, Nat.lt_irrefl, Nat.mul_zero, Nat.zero_mul, Nat.zero_add, Nat.add_zero, Nat.reduceEqDiff, Nat.one_ne_zero, Nat.zero_ne_one, ax_psh_none, ax_psh_some, true_and, and_true, and_false, false_and, not_true_eq_false, not_false_eq_true, true_imp_iff, false_imp_iff, imp_self, or_true, true_or, or_false, false_or, and_self, ite_true, ite_false, if_true, if_false]
    · have e : rEnd B n 1 (f + 1) t = t := by
        show (if t < n ∧ kb (B t) = 1 then _ else _) = _
        rw [if_neg (fun q => hlt q.1)]
      simp (disch := omega) only [hlt, e, n32_add, n32_mul, n32_lt, n32_le, n32_eq, n32_clamp, n32_inT, n32_div, n32_rem, n32_m1, n32_m1', n32_m1lt, n32_ltm1, n32_10, n32_01, Nat.not_lt_zero, Nat.lt_irrefl, Nat.mul_zero, Nat.zero_mul, Nat.zero_add, Nat.add_zero, Nat.reduceEqDiff, Nat.one_ne_zero, Nat.zero_ne_one, ax_psh_none, ax_psh_some, true_and, and_true, and_false, false_and, not_true_eq_false, not_false_eq_true, true_imp_iff, false_imp_iff, imp_self, or_true, true_or, or_false, false_or, and_self, ite_true, ite_false, if_true, if_false]
