/-! the class splits a text -/
def StrOK (gi : GI) (g : AG) : Prop := ∀ w, w < 14 → gi 101 w 0 = n32 0 ∧ g.1 101 w 1 = some (103, w) ∧ g.2.2.1 103 w = (wd w).length ∧ ∀ i, i < (wd w).length → gi 103 w i = n32 ((wd w).getD i 0)
theorem wd_len : ∀ w, w < 14 → 2 ≤ (wd w).length ∧ (wd w).length ≤ 6 := by decide
theorem wd_ch : ∀ w, w < 14 → ∀ i, i < 6 → (wd w).getD i 0 < 128 := by decide
theorem c_strlen (d : Nat) (gi : GI) (g : AG) (Q : Option AV → AH → Prop) {w : Nat} (hS : StrOK gi g) (hw : w < 14) : ax_call (d + 2) m_String_length [.inr (.inr (some (101, w)))] (gi, g) Q = Q (some (.inl (n32 (wd w).length))) (gi, g) := by
  obtain ⟨h1, h2, h3, h4⟩ := hS w hw
  have hl := wd_len w hw
  have e0 : (n32 0).toInt8.toInt32 = n32 0 := by decide
  have e1 : ∀ k, k < 10 → n32 k >>> (n32 0 &&& 31) = n32 k := by decide
  simp (disch := omega) only [e_String_length, b_String_length_0, b_String_length_9, e_String_coder, b_String_coder_0, b_String_coder_6, b_String_coder_13, b_String_coder_14, h1, h2, h3, e0, e1 _ (by omega : (wd w).length < 10), n32_10, ax_psh_none, ax_psh_some, true_and, and_true, and_false, false_and, not_true_eq_false, not_false_eq_true, true_imp_iff, false_imp_iff, imp_self, or_true, true_or, or_false, false_or, and_self, ite_true, ite_false, if_true, if_false]
theorem ch_ok : ∀ k, k < 128 → (((n32 k &&& n32 255).toUInt32 % 65536).toInt32).toUInt32.toUInt16.toUInt32.toInt32 = n32 k ∧ ((n32 k &&& n32 255).toUInt32 % 65536).toInt32 = n32 k := by decide +kernel
theorem c_charAt (d : Nat) (gi : GI) (g : AG) (Q : Option AV → AH → Prop) {w i : Nat} (hS : StrOK gi g) (hw : w < 14) (hi : i < (wd w).length) : ax_call (d + 4) m_String_charAt [.inr (.inr (some (101, w))), .inl (n32 i)] (gi, g) Q = Q (some (.inl (n32 ((wd w).getD i 0)))) (gi, g) := by
  obtain ⟨h1, h2, h3, h4⟩ := hS w hw
  have hl := wd_len w hw
  have hc := ch_ok _ (wd_ch w hw i (by omega))
  have hz : (n32 ((wd w).getD i 0)).toUInt32.toUInt16.toUInt32.toInt32 = n32 ((wd w).getD i 0) := by
    have := hc.1
    rw [hc.2] at this
    exact this
  have e1 : ¬ n32 i < n32 0 := by
    rw [n32_neg (by omega)]
    exact id
  have e2 : i < (wd w).length := hi
  simp (disch := omega) only [e_String_charAt, b_String_charAt_0, b_String_charAt_4, b_String_charAt_7, b_String_charAt_15, e_String_isLatin1, b_String_isLatin1_0, b_String_isLatin1_6, b_String_isLatin1_13, b_String_isLatin1_17, b_String_isLatin1_18, e_Latin1_charAt, b_Latin1_charAt_0, b_Latin1_charAt_6, e_String_checkIndex, b_String_checkIndex_0, b_String_checkIndex_8, e_Precond_checkIndex, b_Precond_checkIndex_0, b_Precond_checkIndex_4, b_Precond_checkIndex_16, h1, h2, h3, h4 i hi, hc.1, hc.2, hz, e1, hi, n32_lt, n32_inT, n32_clamp, n32_10, ax_psh_none, ax_psh_some, true_and, and_true, and_false, false_and, not_true_eq_false, not_false_eq_true, true_imp_iff, false_imp_iff, imp_self, or_true, true_or, or_false, false_or, and_self, ite_true, ite_false, if_true, if_false]
theorem c_wordText (d : Nat) (gi : GI) (g : AG) (Q : Option AV → AH → Prop) {w : Nat} (hw : w < 14) : ax_call (d + 1) m_Reader_wordText [.inl (n32 w)] (gi, g) Q = Q (some (.inr (.inr (some (101, w))))) (gi, g) := by
  rw [e_Reader_wordText, b_Reader_wordText_0]
  have cs : w = 0 ∨ w = 1 ∨ w = 2 ∨ w = 3 ∨ w = 4 ∨ w = 5 ∨ w = 6 ∨ w = 7 ∨ w = 8 ∨ w = 9 ∨ w = 10 ∨ w = 11 ∨ w = 12 ∨ w = 13 := by omega
  rcases cs with rfl | rfl | rfl | rfl | rfl | rfl | rfl | rfl | rfl | rfl | rfl | rfl | rfl | rfl
  · rw [show ax_tsw 1 (n32 0) = 68 by decide, b_Reader_wordText_68]
  · rw [show ax_tsw 1 (n32 1) = 71 by decide, b_Reader_wordText_71]
  · rw [show ax_tsw 1 (n32 2) = 74 by decide, b_Reader_wordText_74]
  · rw [show ax_tsw 1 (n32 3) = 77 by decide, b_Reader_wordText_77]
  · rw [show ax_tsw 1 (n32 4) = 80 by decide, b_Reader_wordText_80]
  · rw [show ax_tsw 1 (n32 5) = 83 by decide, b_Reader_wordText_83]
  · rw [show ax_tsw 1 (n32 6) = 86 by decide, b_Reader_wordText_86]
  · rw [show ax_tsw 1 (n32 7) = 89 by decide, b_Reader_wordText_89]
  · rw [show ax_tsw 1 (n32 8) = 92 by decide, b_Reader_wordText_92]
  · rw [show ax_tsw 1 (n32 9) = 95 by decide, b_Reader_wordText_95]
  · rw [show ax_tsw 1 (n32 10) = 98 by decide, b_Reader_wordText_98]
  · rw [show ax_tsw 1 (n32 11) = 101 by decide, b_Reader_wordText_101]
  · rw [show ax_tsw 1 (n32 12) = 104 by decide, b_Reader_wordText_104]
  · rw [show ax_tsw 1 (n32 13) = 107 by decide, b_Reader_wordText_107]
/-- a tape of bytes -/
def TapeC (gi : GI) (B : Nat → Nat) : Prop := ∀ i, i < 400 → gi 22 0 i = n32 (B i) ∧ B i < 256
theorem c_isWord (d : Nat) (gi : GI) (g : AG) (Q : Option AV → AH → Prop) {w a z : Nat} {B : Nat → Nat} (hS : StrOK gi g) (hT : TapeC gi B) (hw : w < 14) (haz : a ≤ z) (hz : z ≤ 400) : ax_call (d + 5) m_Reader_isWord [.inr (.inr (some (101, w))), .inr (.inr (some (22, 0))), .inl (n32 a), .inl (n32 z)] (gi, g) Q = Q (some (.inl (b32 (decide (wd w = sl B a z))))) (gi, g) := by
  have hl := wd_len w hw
  have e1 : n32 z - n32 a = n32 (z - a) := n32_sub haz
  rw [e_Reader_isWord]
  by_cases hlen : (wd w).length = z - a
  · have key := loop_up (n := (wd w).length) (P := fun i => (∀ j, j < i → (wd w).getD j 0 = B (a + j)) → ∀ o3, Runs (d + 4) (m_Reader_isWord, 15, [some (.inr (.inr (some (101, w)))), some (.inr (.inr (some (22, 0)))), some (.inl (n32 a)), o3, some (.inl (n32 i))], []) (gi, g) Q = Q (some (.inl (b32 (decide (wd w = sl B a z))))) (gi, g)) ?_ ?_
    · simp (disch := omega) only [b_Reader_isWord_0, b_Reader_isWord_4, b_Reader_isWord_12, c_strlen _ _ _ _ hS hw, e1, hlen, ax_psh_none, ax_psh_some, true_and, and_true, and_false, false_and, not_true_eq_false, not_false_eq_true, true_imp_iff, false_imp_iff, imp_self, or_true, true_or, or_false, false_or, and_self, ite_true, ite_false, if_true, if_false]
      exact key 0 (Nat.zero_le _) (fun j hj => absurd hj (Nat.not_lt_zero j)) _
    · intro i hi ih hpre o3
      have ht := hT (a + i) (by omega)
      have hc := wd_ch w hw i (by omega)
      rw [b_Reader_isWord_15]
      by_cases he : (wd w).getD i 0 = B (a + i)
      · simp (disch := omega) only [b_Reader_isWord_21, b_Reader_isWord_24, b_Reader_isWord_30, b_Reader_isWord_41, c_strlen _ _ _ _ hS hw, c_charAt _ _ _ _ hS hw hi, hi, ht.1, he, n32_add, n32_mul, n32_lt, n32_le, n32_eq, n32_clamp, n32_inT, n32_div, n32_rem, n32_m1, n32_m1', n32_m1lt, n32_ltm1, n32_10, n32_01, Nat.not_lt_zero, Nat.lt_irrefl, Nat.mul_zero, Nat.zero_mul, Nat.zero_add, Nat.add_zero, Nat.reduceEqDiff, Nat.one_ne_zero, Nat.zero_ne_one, ax_psh_none, ax_psh_some, true_and, and_true, and_false, false_and, not_true_eq_false, not_false_eq_true, true_imp_iff, false_imp_iff, imp_self, or_true, true_or, or_false, false_or, and_self, ite_true, ite_false, if_true, if_false]
        exact ih (fun j hj => by
          by_cases e : j = i
          · subst e
            exact he
          · exact hpre j (by omega)) _
      · have hne : ¬ wd w = sl B a z := fun q => he ((sl_iff.mp q).2 i hi)
        simp (disch := omega) only [b_Reader_isWord_21, b_Reader_isWord_24, b_Reader_isWord_30, b_Reader_isWord_39, c_strlen _ _ _ _ hS hw, c_charAt _ _ _ _ hS hw hi, hi, ht.1, he, hne, decide_false, b32_0, n32_add, n32_mul, n32_lt, n32_le, n32_eq, n32_clamp, n32_inT, n32_div, n32_rem, n32_m1, n32_m1', n32_m1lt, n32_ltm1, n32_10, n32_01, Nat.not_lt_zero, Nat.lt_irrefl, Nat.mul_zero, Nat.zero_mul, Nat.zero_add, Nat.add_zero, Nat.reduceEqDiff, Nat.one_ne_zero, Nat.zero_ne_one, ax_psh_none, ax_psh_some, true_and, and_true, and_false, false_and, not_true_eq_false, not_false_eq_true, true_imp_iff, false_imp_iff, imp_self, or_true, true_or, or_false, false_or, and_self, ite_true, ite_false, if_true, if_false]
    · intro hpre o3
      have hy : wd w = sl B a z := sl_iff.mpr ⟨hlen, hpre⟩
      rw [b_Reader_isWord_15]
      have hT2 : decide (wd w = sl B a z) = true := decide_eq_true hy
      simp (disch := omega) only [b_Reader_isWord_21, b_Reader_isWord_47, c_strlen _ _ _ _ hS hw, hT2, b32_1, n32_add, n32_mul, n32_lt, n32_le, n32_eq, n32_clamp, n32_inT, n32_div, n32_rem, n32_m1, n32_m1', n32_m1lt, n32_ltm1, n32_10, n32_01, Nat.not_lt_zero, Nat.lt_irrefl, Nat.mul_zero, Nat.zero_mul, Nat.zero_add, Nat.add_zero, Nat.reduceEqDiff, Nat.one_ne_zero, Nat.zero_ne_one, ax_psh_none, ax_psh_some, true_and, and_true, and_false, false_and, not_true_eq_false, not_false_eq_true, true_imp_iff, false_imp_iff, imp_self, or_true, true_or, or_false, false_or, and_self, ite_true, ite_false, if_true, if_false]
  · have hne : ¬ wd w = sl B a z := fun q => hlen (sl_iff.mp q).1
    simp (disch := omega) only [b_Reader_isWord_0, b_Reader_isWord_4, b_Reader_isWord_10, c_strlen _ _ _ _ hS hw, e1, hlen, hne, decide_false, b32_0, n32_add, n32_mul, n32_lt, n32_le, n32_eq, n32_clamp, n32_inT, n32_div, n32_rem, n32_m1, n32_m1', n32_m1lt, n32_ltm1, n32_10, n32_01, Nat.not_lt_zero, Nat.lt_irrefl, Nat.mul_zero, Nat.zero_mul, Nat.zero_add, Nat.add_zero, Nat.reduceEqDiff, Nat.one_ne_zero, Nat.zero_ne_one, ax_psh_none, ax_psh_some, true_and, and_true, and_false, false_and, not_true_eq_false, not_false_eq_true, true_imp_iff, false_imp_iff, imp_self, or_true, true_or, or_false, false_or, and_self, ite_true, ite_false, if_true, if_false]
theorem c_wordOf (d : Nat) (gi : GI) (g : AG) (Q : Option AV → AH → Prop) {a z : Nat} {B : Nat → Nat} (hS : StrOK gi g) (hT : TapeC gi B) (haz : a ≤ z) (hz : z ≤ 400) : ax_call (d + 6) m_Reader_wordOf [.inr (.inr (some (22, 0))), .inl (n32 a), .inl (n32 z)] (gi, g) Q = Q (some (.inl (wdI (codeOf (sl B a z))))) (gi, g) := by
  have key := loop_up (n := 14) (P := fun i => (∀ w, w < i → wd w ≠ sl B a z) → Runs (d + 5) (m_Reader_wordOf, 2, [some (.inr (.inr (some (22, 0)))), some (.inl (n32 a)), some (.inl (n32 z)), some (.inl (n32 i))], []) (gi, g) Q = Q (some (.inl (wdI (codeOf (sl B a z))))) (gi, g)) ?_ ?_
  · rw [e_Reader_wordOf, b_Reader_wordOf_0]
    exact key 0 (Nat.zero_le _) (fun w hw => absurd hw (Nat.not_lt_zero w))
  · intro i hi ih hpre
    rw [b_Reader_wordOf_2]
    by_cases he : wd i = sl B a z
    · have hT2 : decide (wd i = sl B a z) = true := decide_eq_true he
      simp (disch := omega) only [b_Reader_wordOf_8, b_Reader_wordOf_12, b_Reader_wordOf_18, b_Reader_wordOf_21, c_wordText _ _ _ _ hi, c_isWord _ _ _ _ hS hT hi haz hz, hi, hT2, b32_1, n32_add, n32_mul, n32_lt, n32_le, n32_eq, n32_clamp, n32_inT, n32_div, n32_rem, n32_m1, n32_m1', n32_m1lt, n32_ltm1, n32_10, n32_01, Nat.not_lt_zero, Nat.lt_irrefl, Nat.mul_zero, Nat.zero_mul, Nat.zero_add, Nat.add_zero, Nat.reduceEqDiff, Nat.one_ne_zero, Nat.zero_ne_one, ax_psh_none, ax_psh_some, true_and, and_true, and_false, false_and, not_true_eq_false, not_false_eq_true, true_imp_iff, false_imp_iff, imp_self, or_true, true_or, or_false, false_or, and_self, ite_true, ite_false, if_true, if_false]
      rw [← he, codeOf_wd i hi]
    · have hT2 : decide (wd i = sl B a z) = false := decide_eq_false he
      simp (disch := omega) only [b_Reader_wordOf_8, b_Reader_wordOf_12, b_Reader_wordOf_18, b_Reader_wordOf_23, c_wordText _ _ _ _ hi, c_isWord _ _ _ _ hS hT hi haz hz, hi, hT2, b32_0, n32_add, n32_mul, n32_lt, n32_le, n32_eq, n32_clamp, n32_inT, n32_div, n32_rem, n32_m1, n32_m1', n32_m1lt, n32_ltm1, n32_10, n32_01, Nat.not_lt_zero, Nat.lt_irrefl, Nat.mul_zero, Nat.zero_mul, Nat.zero_add, Nat.add_zero, Nat.reduceEqDiff, Nat.one_ne_zero, Nat.zero_ne_one, ax_psh_none, ax_psh_some, true_and, and_true, and_false, false_and, not_true_eq_false, not_false_eq_true, true_imp_iff, false_imp_iff, imp_self, or_true, true_or, or_false, false_or, and_self, ite_true, ite_false, if_true, if_false]
      exact ih (fun w hw => by
        by_cases e : w = i
        · subst e
          exact he
        · exact hpre w (by omega))
  · intro hpre
    rw [b_Reader_wordOf_2]
    simp (disch := omega) only [b_Reader_wordOf_29, n32_add, n32_mul, n32_lt, n32_le, n32_eq, n32_clamp, n32_inT, n32_div, n32_rem, n32_m1, n32_m1', n32_m1lt, n32_ltm1, n32_10, n32_01, Nat.not_lt_zero, Nat.lt_irrefl, Nat.mul_zero, Nat.zero_mul, Nat.zero_add, Nat.add_zero, Nat.reduceEqDiff, Nat.one_ne_zero, Nat.zero_ne_one, ax_psh_none, ax_psh_some, true_and, and_true, and_false, false_and, not_true_eq_false, not_false_eq_true, true_imp_iff, false_imp_iff, imp_self, or_true, true_or, or_false, false_or, and_self, ite_true, ite_false, if_true, if_false]
    rw [codeOf_none hpre]
    rfl
theorem c_numberOf (d : Nat) (gi : GI) (g : AG) (Q : Option AV → AH → Prop) {a z : Nat} {B : Nat → Nat} (hT : TapeC gi B) (haz : a ≤ z) (hz : z ≤ 400) (hd : ∀ i, a ≤ i → i < z → kb (B i) = 1) : ax_call (d + 1) m_Reader_numberOf [.inr (.inr (some (22, 0))), .inl (n32 a), .inl (n32 z)] (gi, g) Q = Q (some (.inl (n32 (nV B (z - a) a 0)))) (gi, g) := by
  have key : ∀ f i x, a ≤ i → i + f = z → x ≤ 1001 → ∀ o1, Runs d (m_Reader_numberOf, 5, [some (.inr (.inr (some (22, 0)))), o1, some (.inl (n32 z)), some (.inl (n32 x)), some (.inl (n32 i))], []) (gi, g) Q = Q (some (.inl (n32 (nV B f i x)))) (gi, g) := by
    intro f
    induction f with
    | zero =>
      intro i x h1 h2 h3 o1
      have e : i = z := by omega
      subst e
      rw [b_Reader_numberOf_5]
      simp (disch := omega) only [b_Reader_numberOf_36, n32_add, n32_mul, n32_lt, n32_le, n32_eq, n32_clamp, n32_inT, n32_div, n32_rem, n32_m1, n32_m1', n32_m1lt, n32_ltm1, n32_10, n32_01, Nat.not_lt_zero, Nat.lt_irrefl, Nat.mul_zero, Nat.zero_mul, Nat.zero_add, Nat.add_zero, Nat.reduceEqDiff, Nat.one_ne_zero, Nat.zero_ne_one, ax_psh_none, ax_psh_some, true_and, and_true, and_false, false_and, not_true_eq_false, not_false_eq_true, true_imp_iff, false_imp_iff, imp_self, or_true, true_or, or_false, false_or, and_self, ite_true, ite_false, if_true, if_false]
      rfl
    | succ f ih =>
      intro i x h1 h2 h3 o1
      have hlt : i < z := by omega
      have ht := hT i (by omega)
      have hk := hd i h1 hlt
      have hB : 48 ≤ B i ∧ B i ≤ 57 := by
        unfold kb at hk
        split at hk
        · omega
        · split at hk
          · assumption
          · omega
      have e2 : n32 (x * 10 + B i) - n32 48 = n32 (x * 10 + (B i - 48)) := by
        rw [n32_sub (by omega)]
        congr 1
        omega
      have mn : (if 1001 < x * 10 + (B i - 48) then n32 1001 else n32 (x * 10 + (B i - 48))) = n32 (min (x * 10 + (B i - 48)) 1001) := by
        split
        · rw [Nat.min_eq_right (by omega)]
        · rw [Nat.min_eq_left (by omega)]
      rw [b_Reader_numberOf_5]
      simp (disch := omega) only [b_Reader_numberOf_11, hlt, ht.1, e2, n32_add, n32_mul, n32_lt, n32_le, n32_eq, n32_clamp, n32_inT, n32_div, n32_rem, n32_m1, n32_m1', n32_m1lt, n32_ltm1, n32_10, n32_01, Nat.not_lt_zero, Nat.lt_irrefl, Nat.mul_zero, Nat.zero_mul, Nat.zero_add, Nat.add_zero, Nat.reduceEqDiff, Nat.one_ne_zero, Nat.zero_ne_one, ax_psh_none, ax_psh_some, true_and, and_true, and_false, false_and, not_true_eq_false, not_false_eq_true, true_imp_iff, false_imp_iff, imp_self, or_true, true_or, or_false, false_or, and_self, ite_true, ite_false, if_true, if_false]
      rw [mn]
      exact ih (i + 1) _ (by omega) (by omega) (Nat.min_le_right _ _) _
  rw [e_Reader_numberOf, b_Reader_numberOf_0]
  exact key (z - a) a 0 (Nat.le_refl _) (by omega) (by omega) _
theorem c_kindOf (d : Nat) (gi : GI) (g : AG) (Q : Option AV → AH → Prop) {b : Nat} (hb : b < 256) : ax_call (d + 2) m_Reader_kindOf [.inl (n32 b)] (gi, g) Q = Q (some (.inl (n32 (kb b)))) (gi, g) := by
  unfold kb
  by_cases h1 : 97 ≤ b ∧ b ≤ 122
  · rw [if_pos h1]
    simp (disch := omega) only [e_Reader_kindOf, b_Reader_kindOf_0, b_Reader_kindOf_8, b_Reader_kindOf_11, b_Reader_kindOf_13, b_Reader_kindOf_21, b_Reader_kindOf_24, b_Reader_kindOf_28, b_Reader_kindOf_29, c_S_within, win_T h1.1 h1.2, ax_psh_none, ax_psh_some, true_and, and_true, and_false, false_and, not_true_eq_false, not_false_eq_true, true_imp_iff, false_imp_iff, imp_self, or_true, true_or, or_false, false_or, and_self, ite_true, ite_false, if_true, if_false]
  · rw [if_neg h1]
    have e1 : win (n32 b) (n32 97) (n32 122) = n32 0 := by
      rw [win_in (by omega) (by omega) (by omega)]
      exact h1
    by_cases h2 : 48 ≤ b ∧ b ≤ 57
    · rw [if_pos h2]
      simp (disch := omega) only [e_Reader_kindOf, b_Reader_kindOf_0, b_Reader_kindOf_8, b_Reader_kindOf_11, b_Reader_kindOf_13, b_Reader_kindOf_21, b_Reader_kindOf_24, b_Reader_kindOf_28, b_Reader_kindOf_29, c_S_within, e1, win_T h2.1 h2.2, ax_psh_none, ax_psh_some, true_and, and_true, and_false, false_and, not_true_eq_false, not_false_eq_true, true_imp_iff, false_imp_iff, imp_self, or_true, true_or, or_false, false_or, and_self, ite_true, ite_false, if_true, if_false]
    · rw [if_neg h2]
      have e2 : win (n32 b) (n32 48) (n32 57) = n32 0 := by
        rw [win_in (by omega) (by omega) (by omega)]
        exact h2
      simp (disch := omega) only [e_Reader_kindOf, b_Reader_kindOf_0, b_Reader_kindOf_8, b_Reader_kindOf_11, b_Reader_kindOf_13, b_Reader_kindOf_21, b_Reader_kindOf_24, b_Reader_kindOf_28, b_Reader_kindOf_29, c_S_within, e1, e2, ax_psh_none, ax_psh_some, true_and, and_true, and_false, false_and, not_true_eq_false, not_false_eq_true, true_imp_iff, false_imp_iff, imp_self, or_true, true_or, or_false, false_or, and_self, ite_true, ite_false, if_true, if_false]
def keepG (gi : GI) (i : Nat) (k v p : Int32) : GI := ax_wI (ax_wI (ax_wI (ax_wI gi 31 0 i k) 32 0 i v) 33 0 i p) 6 0 3 (n32 (i + 1))
theorem c_keep (d : Nat) {gi : GI} {g : AG} {Q : Option AV → AH → Prop} (hG : GOK g) {i : Nat} (hi : gi 6 0 3 = n32 i) (hi4 : i ≤ 400) (k v p : Int32) : ax_call (d + 1) m_Reader_keep [.inr (.inr (some (6, 0))), .inl k, .inl v, .inl p] (gi, g) Q = Q none (keepG gi i k v p, g) := by
  have h1 : i < 401 := by omega
  simp (disch := omega) only [e_Reader_keep, b_Reader_keep_0, b_Reader_keep_12, b_Reader_keep_52, G_0_0 hG, G_0_1 hG, G_0_2 hG, G_0_3 hG, G_0_7 hG, G_0_10 hG, G_0_12 hG, G_0_13 hG, G_0_14 hG, G_0_15 hG, G_0_16 hG, G_0_17 hG, G_1_0 hG, G_1_2 hG, G_1_5 hG, G_2_4 hG, G_2_5 hG, G_3_5 hG, G_3_6 hG, G_3_7 hG, G_3_8 hG, G_3_9 hG, G_5_0 hG, G_5_1 hG, G_6_0 hG, G_6_1 hG, G_6_2 hG, G_6_9 hG, G_6_10 hG, G_6_11 hG, G_6_12 hG, G_6_13 hG, G_7_0 hG, G_7_5 hG, G_8_8 hG, G_8_9 hG, G_9_8 hG, G_9_9 hG, G_10_7 hG, G_10_8 hG, G_10_9 hG, G_10_10 hG, G_10_11 hG, G_11_0 hG, G_12_2 hG, G_12_3 hG, G_12_4 hG, G_12_5 hG, G_12_7 hG, G_12_8 hG, G_12_9 hG, G_12_12 hG, G_12_13 hG, G_12_14 hG, G_12_22 hG, G_12_23 hG, G_12_29 hG, G_12_30 hG, G_12_31 hG, G_12_37 hG, G_12_38 hG, G_12_39 hG, G_12_40 hG, G_12_41 hG, G_12_43 hG, G_12_46 hG, G_12_47 hG, G_12_48 hG, G_25 hG, G_26 hG, G_47 hG, G_58 hG, hi, h1, wI_at, n32_add, n32_mul, n32_lt, n32_le, n32_eq, n32_clamp, n32_inT, n32_div, n32_rem, n32_m1, n32_m1', n32_m1lt, n32_ltm1, n32_10, n32_01, Nat.not_lt_zero, Nat.lt_irrefl, Nat.mul_zero, Nat.zero_mul, Nat.zero_add, Nat.add_zero, Nat.reduceEqDiff, Nat.one_ne_zero, Nat.zero_ne_one, ax_psh_none, ax_psh_some, true_and, and_true, and_false, false_and, not_true_eq_false, not_false_eq_true, true_imp_iff, false_imp_iff, imp_self, or_true, true_or, or_false, false_or, and_self, ite_true, ite_false, if_true, if_false, reduceIte, Nat.reduceEqDiff, Nat.reduceLT, Nat.reduceAdd, Nat.reduceMul, Nat.reduceSub, Nat.reduceDiv, Nat.reduceMod, Nat.reduceLeDiff]
  rfl
def spMod (s j : Nat) : Bool := (s == 6 && j == 3) || s == 31 || s == 32 || s == 33
theorem Fr_keep {gi gi' : GI} {i : Nat} {k v p : Int32} (h : Fr spMod gi gi') : Fr spMod gi (keepG gi' i k v p) := Fr_wI (Fr_wI (Fr_wI (Fr_wI h rfl) rfl) rfl) rfl
theorem keepG_at (gi : GI) (i : Nat) (k v p : Int32) (j : Nat) : keepG gi i k v p 31 0 j = (if j = i then k else gi 31 0 j) ∧ keepG gi i k v p 32 0 j = (if j = i then v else gi 32 0 j) ∧ keepG gi i k v p 33 0 j = (if j = i then p else gi 33 0 j) ∧ keepG gi i k v p 6 0 3 = n32 (i + 1) := by
  unfold keepG
  simp [wI_at]
theorem rd_run {B : Nat → Nat} {n k a d : Nat} {g : AG} {gi : GI} {Q : Option AV → AH → Prop} (hT : TapeC gi B) (hn : n ≤ 400) (hk3 : k ≠ 3) (hk4 : k < 4) : ∀ f t, n ≤ t + f → t ≤ n → Runs (d + 2) (m_Reader_split, 25, [some (.inr (.inr (some (6, 0)))), some (.inr (.inr (some (22, 0)))), some (.inl (n32 n)), some (.inl (n32 a)), some (.inl (n32 t)), some (.inl (n32 k))], []) (gi, g) Q = Runs (d + 2) (m_Reader_split, 55, [some (.inr (.inr (some (6, 0)))), some (.inr (.inr (some (22, 0)))), some (.inl (n32 n)), some (.inl (n32 a)), some (.inl (n32 (rEnd B n k f t))), some (.inl (n32 k))], []) (gi, g) Q := by
  intro f
  induction f with
  | zero =>
    intro t h1 h2
    have hlt : ¬ t < n := by omega
    rw [b_Reader_split_25]
    simp (disch := omega) only [b_Reader_split_31, hk3, hlt, n32_add, n32_mul, n32_lt, n32_le, n32_eq, n32_clamp, n32_inT, n32_div, n32_rem, n32_m1, n32_m1', n32_m1lt, n32_ltm1, n32_10, n32_01, Nat.not_lt_zero, Nat.lt_irrefl, Nat.mul_zero, Nat.zero_mul, Nat.zero_add, Nat.add_zero, Nat.reduceEqDiff, Nat.one_ne_zero, Nat.zero_ne_one, ax_psh_none, ax_psh_some, true_and, and_true, and_false, false_and, not_true_eq_false, not_false_eq_true, true_imp_iff, false_imp_iff, imp_self, or_true, true_or, or_false, false_or, and_self, ite_true, ite_false, if_true, if_false]
    rfl
  | succ f ih =>
    intro t h1 h2
    rw [b_Reader_split_25]
    by_cases hlt : t < n
    · have ht := hT t (by omega)
      by_cases hkk : kb (B t) = k
      · have e : rEnd B n k (f + 1) t = rEnd B n k f (t + 1) := by
          show (if t < n ∧ kb (B t) = k then _ else _) = _
          rw [if_pos ⟨hlt, hkk⟩]
        simp (disch := omega) only [b_Reader_split_31, b_Reader_split_37, b_Reader_split_44, b_Reader_split_49, hk3, hlt, ht.1, c_kindOf _ _ _ _ ht.2, hkk, n32_add, n32_mul, n32_lt, n32_le, n32_eq, n32_clamp, n32_inT, n32_div, n32_rem, n32_m1, n32_m1', n32_m1lt, n32_ltm1, n32_10, n32_01, Nat.not_lt_zero, Nat.lt_irrefl, Nat.mul_zero, Nat.zero_mul, Nat.zero_add, Nat.add_zero, Nat.reduceEqDiff, Nat.one_ne_zero, Nat.zero_ne_one, ax_psh_none, ax_psh_some, true_and, and_true, and_false, false_and, not_true_eq_false, not_false_eq_true, true_imp_iff, false_imp_iff, imp_self, or_true, true_or, or_false, false_or, and_self, ite_true, ite_false, if_true, if_false]
        rw [e]
        exact ih (t + 1) (by omega) (by omega)
      · have e : rEnd B n k (f + 1) t = t := by
          show (if t < n ∧ kb (B t) = k then _ else _) = _
          rw [if_neg (fun q => hkk q.2)]
        have hkb : kb (B t) < 4 := by
          unfold kb
          split
          · omega
          · split <;> omega
        simp (disch := omega) only [b_Reader_split_31, b_Reader_split_37, b_Reader_split_44, hk3, hlt, ht.1, c_kindOf _ _ _ _ ht.2, hkk, e, n32_add, n32_mul, n32_lt, n32_le, n32_eq, n32_clamp, n32_inT, n32_div, n32_rem, n32_m1, n32_m1', n32_m1lt, n32_ltm1, n32_10, n32_01, Nat.not_lt_zero, Nat.lt_irrefl, Nat.mul_zero, Nat.zero_mul, Nat.zero_add, Nat.add_zero, Nat.reduceEqDiff, Nat.one_ne_zero, Nat.zero_ne_one, ax_psh_none, ax_psh_some, true_and, and_true, and_false, false_and, not_true_eq_false, not_false_eq_true, true_imp_iff, false_imp_iff, imp_self, or_true, true_or, or_false, false_or, and_self, ite_true, ite_false, if_true, if_false]
    · have e : rEnd B n k (f + 1) t = t := by
        show (if t < n ∧ kb (B t) = k then _ else _) = _
        rw [if_neg (fun q => hlt q.1)]
      simp (disch := omega) only [b_Reader_split_31, hk3, hlt, e, n32_add, n32_mul, n32_lt, n32_le, n32_eq, n32_clamp, n32_inT, n32_div, n32_rem, n32_m1, n32_m1', n32_m1lt, n32_ltm1, n32_10, n32_01, Nat.not_lt_zero, Nat.lt_irrefl, Nat.mul_zero, Nat.zero_mul, Nat.zero_add, Nat.add_zero, Nat.reduceEqDiff, Nat.one_ne_zero, Nat.zero_ne_one, ax_psh_none, ax_psh_some, true_and, and_true, and_false, false_and, not_true_eq_false, not_false_eq_true, true_imp_iff, false_imp_iff, imp_self, or_true, true_or, or_false, false_or, and_self, ite_true, ite_false, if_true, if_false]
theorem kb_cases (b : Nat) : kb b = 1 ∨ kb b = 2 ∨ kb b = 3 := by
  unfold kb
  split
  · exact Or.inr (Or.inl rfl)
  · split
    · exact Or.inl rfl
    · exact Or.inr (Or.inr rfl)
theorem c_valueOf (d : Nat) (gi : GI) (g : AG) (Q : Option AV → AH → Prop) {a n : Nat} {B : Nat → Nat} (hS : StrOK gi g) (hT : TapeC gi B) (ha : a < n) (hn : n ≤ 400) : ax_call (d + 7) m_Reader_valueOf [.inl (n32 (kb (B a))), .inr (.inr (some (22, 0))), .inl (n32 a), .inl (n32 (toE B n a))] (gi, g) Q = Q (some (.inl (kvl (tcd B n a) (tvl B n a)))) (gi, g) := by
  have h1 := toE_gt (B := B) (n := n) (a := a)
  have h2 := toE_n (B := B) ha
  have ht := hT a (by omega)
  rcases kb_cases (B a) with hk | hk | hk
  · have e : kvl (tcd B n a) (tvl B n a) = n32 (nV B (toE B n a - a) a 0) := by
      unfold tcd tvl kvl
      simp [hk]
    have hd : ∀ i, a ≤ i → i < toE B n a → kb (B i) = 1 := by
      intro i q1 q2
      by_cases q : i = a
      · subst q
        exact hk
      · unfold toE at q2
        rw [if_neg (by omega)] at q2
        rw [rEnd_k i (by omega) q2, hk]
    simp (disch := omega) only [e_Reader_valueOf, b_Reader_valueOf_0, b_Reader_valueOf_5, b_Reader_valueOf_11, b_Reader_valueOf_12, b_Reader_valueOf_17, b_Reader_valueOf_23, b_Reader_valueOf_26, b_Reader_valueOf_29, hk, c_numberOf _ _ _ _ hT (Nat.le_of_lt h1) (by omega) hd, e, n32_add, n32_mul, n32_lt, n32_le, n32_eq, n32_clamp, n32_inT, n32_div, n32_rem, n32_m1, n32_m1', n32_m1lt, n32_ltm1, n32_10, n32_01, Nat.not_lt_zero, Nat.lt_irrefl, Nat.mul_zero, Nat.zero_mul, Nat.zero_add, Nat.add_zero, Nat.reduceEqDiff, Nat.one_ne_zero, Nat.zero_ne_one, ax_psh_none, ax_psh_some, true_and, and_true, and_false, false_and, not_true_eq_false, not_false_eq_true, true_imp_iff, false_imp_iff, imp_self, or_true, true_or, or_false, false_or, and_self, ite_true, ite_false, if_true, if_false]
  · have e : kvl (tcd B n a) (tvl B n a) = wdI (codeOf (sl B a (toE B n a))) := by
      have := codeOf_le (sl B a (toE B n a))
      unfold tcd kvl
      rw [if_pos hk, if_neg (by omega), if_neg (by omega)]
    simp (disch := omega) only [e_Reader_valueOf, b_Reader_valueOf_0, b_Reader_valueOf_5, b_Reader_valueOf_11, b_Reader_valueOf_12, b_Reader_valueOf_17, b_Reader_valueOf_23, b_Reader_valueOf_26, b_Reader_valueOf_29, hk, c_wordOf _ _ _ _ hS hT (Nat.le_of_lt h1) (by omega), e, n32_add, n32_mul, n32_lt, n32_le, n32_eq, n32_clamp, n32_inT, n32_div, n32_rem, n32_m1, n32_m1', n32_m1lt, n32_ltm1, n32_10, n32_01, Nat.not_lt_zero, Nat.lt_irrefl, Nat.mul_zero, Nat.zero_mul, Nat.zero_add, Nat.add_zero, Nat.reduceEqDiff, Nat.one_ne_zero, Nat.zero_ne_one, ax_psh_none, ax_psh_some, true_and, and_true, and_false, false_and, not_true_eq_false, not_false_eq_true, true_imp_iff, false_imp_iff, imp_self, or_true, true_or, or_false, false_or, and_self, ite_true, ite_false, if_true, if_false]
  · have e0 : tcd B n a = 100 + B a := by
      unfold tcd
      rw [if_neg (by omega), if_neg (by omega)]
    have e : kvl (tcd B n a) (tvl B n a) = n32 (B a) := by
      rw [e0]
      unfold kvl
      rw [if_pos (by omega)]
      congr 1
      omega
    simp (disch := omega) only [e_Reader_valueOf, b_Reader_valueOf_0, b_Reader_valueOf_5, b_Reader_valueOf_11, b_Reader_valueOf_12, b_Reader_valueOf_17, b_Reader_valueOf_23, b_Reader_valueOf_26, b_Reader_valueOf_29, hk, ht.1, e, n32_add, n32_mul, n32_lt, n32_le, n32_eq, n32_clamp, n32_inT, n32_div, n32_rem, n32_m1, n32_m1', n32_m1lt, n32_ltm1, n32_10, n32_01, Nat.not_lt_zero, Nat.lt_irrefl, Nat.mul_zero, Nat.zero_mul, Nat.zero_add, Nat.add_zero, Nat.reduceEqDiff, Nat.one_ne_zero, Nat.zero_ne_one, ax_psh_none, ax_psh_some, true_and, and_true, and_false, false_and, not_true_eq_false, not_false_eq_true, true_imp_iff, false_imp_iff, imp_self, or_true, true_or, or_false, false_or, and_self, ite_true, ite_false, if_true, if_false]
theorem kcd_tcd {B : Nat → Nat} {n a : Nat} : kcd (tcd B n a) = kb (B a) := by
  have := codeOf_le (sl B a (toE B n a))
  rcases kb_cases (B a) with hk | hk | hk
  · have e0 : tcd B n a = 50 := by
      unfold tcd
      rw [if_neg (by omega), if_pos hk]
    rw [e0, hk]
    rfl
  · have e0 : tcd B n a = codeOf (sl B a (toE B n a)) := by
      unfold tcd
      rw [if_pos hk]
    unfold kcd
    rw [e0, if_neg (by omega), if_neg (by omega), hk]
  · have e0 : tcd B n a = 100 + B a := by
      unfold tcd
      rw [if_neg (by omega), if_neg (by omega)]
    unfold kcd
    rw [e0, if_pos (by omega), hk]
theorem TapeC_fr {gi gi' : GI} {B : Nat → Nat} (h : TapeC gi B) (hf : Fr spMod gi gi') : TapeC gi' B := fun i hi => by
  rw [hf 22 0 i rfl]
  exact h i hi
theorem StrOK_fr {gi gi' : GI} {g : AG} (h : StrOK gi g) (hf : Fr spMod gi gi') : StrOK gi' g := fun w hw => by
  obtain ⟨h1, h2, h3, h4⟩ := h w hw
  refine ⟨(hf 101 w 0 rfl).trans h1, h2, h3, fun i hi => (hf 103 w i rfl).trans (h4 i hi)⟩
theorem rd_split_loop {B : Nat → Nat} {n d : Nat} {g : AG} {Q : Option AV → AH → Prop} (hG : GOK g) (hn : n ≤ 400) : ∀ f (gi : GI) (a i : Nat) (o4 o5 : Option AV), n ≤ a + f → a ≤ n → i ≤ a → StrOK gi g → TapeC gi B → gi 6 0 3 = n32 i →
    (∀ gi', Fr spMod gi gi' → gi' 6 0 3 = n32 (i + (lexN B n f a).length + 1) → StC (gi' 31 0) (gi' 32 0) (gi' 33 0) n i (lexN B n f a) → (∀ j, j < i → gi' 31 0 j = gi 31 0 j ∧ gi' 32 0 j = gi 32 0 j ∧ gi' 33 0 j = gi 33 0 j) → Q none (gi', g)) →
    Runs (d + 8) (m_Reader_split, 7, [some (.inr (.inr (some (6, 0)))), some (.inr (.inr (some (22, 0)))), some (.inl (n32 n)), some (.inl (n32 a)), o4, o5], []) (gi, g) Q := by
  have fin : ∀ (gi : GI) (a i : Nat) (o4 o5 : Option AV), ¬ a < n → a ≤ n → i ≤ a → gi 6 0 3 = n32 i → (∀ gi', Fr spMod gi gi' → gi' 6 0 3 = n32 (i + 0 + 1) → StC (gi' 31 0) (gi' 32 0) (gi' 33 0) n i [] → (∀ j, j < i → gi' 31 0 j = gi 31 0 j ∧ gi' 32 0 j = gi 32 0 j ∧ gi' 33 0 j = gi 33 0 j) → Q none (gi', g)) → Runs (d + 8) (m_Reader_split, 7, [some (.inr (.inr (some (6, 0)))), some (.inr (.inr (some (22, 0)))), some (.inl (n32 n)), some (.inl (n32 a)), o4, o5], []) (gi, g) Q := by
    intro gi a i o4 o5 hlt ha hia hi hq
    rw [b_Reader_split_7]
    simp (disch := omega) only [b_Reader_split_85, b_Reader_split_92, hlt, c_keep _ hG hi (by omega : i ≤ 400), n32_add, n32_mul, n32_lt, n32_le, n32_eq, n32_clamp, n32_inT, n32_div, n32_rem, n32_m1, n32_m1', n32_m1lt, n32_ltm1, n32_10, n32_01, Nat.not_lt_zero, Nat.lt_irrefl, Nat.mul_zero, Nat.zero_mul, Nat.zero_add, Nat.add_zero, Nat.reduceEqDiff, Nat.one_ne_zero, Nat.zero_ne_one, ax_psh_none, ax_psh_some, true_and, and_true, and_false, false_and, not_true_eq_false, not_false_eq_true, true_imp_iff, false_imp_iff, imp_self, or_true, true_or, or_false, false_or, and_self, ite_true, ite_false, if_true, if_false]
    refine hq _ (Fr_keep (Fr_refl _ _)) (keepG_at _ _ _ _ _ 0).2.2.2 ?_ (fun j hj => ?_)
    · have := keepG_at gi i (n32 0) (n32 0) (n32 n) i
      exact ⟨this.1.trans (if_pos rfl), this.2.1.trans (if_pos rfl), this.2.2.1.trans (if_pos rfl)⟩
    · have := keepG_at gi i (n32 0) (n32 0) (n32 n) j
      exact ⟨this.1.trans (if_neg (by omega)), this.2.1.trans (if_neg (by omega)), this.2.2.1.trans (if_neg (by omega))⟩
  intro f
  induction f with
  | zero =>
    intro gi a i o4 o5 h1 h2 hia hS hT hi hq
    exact fin gi a i o4 o5 (by omega) h2 hia hi hq
  | succ f ih =>
    intro gi a i o4 o5 h1 h2 hia hS hT hi hq
    by_cases hlt : a < n
    · have g1 := toE_gt (B := B) (n := n) (a := a)
      have g2 := toE_n (B := B) hlt
      have ht := hT a (by omega)
      have hkb4 : kb (B a) < 4 := by rcases kb_cases (B a) with h | h | h <;> omega
      -- to the end of the run
      have run : Runs (d + 8) (m_Reader_split, 25, [some (.inr (.inr (some (6, 0)))), some (.inr (.inr (some (22, 0)))), some (.inl (n32 n)), some (.inl (n32 a)), some (.inl (n32 (a + 1))), some (.inl (n32 (kb (B a))))], []) (gi, g) Q = Runs (d + 8) (m_Reader_split, 55, [some (.inr (.inr (some (6, 0)))), some (.inr (.inr (some (22, 0)))), some (.inl (n32 n)), some (.inl (n32 a)), some (.inl (n32 (toE B n a))), some (.inl (n32 (kb (B a))))], []) (gi, g) Q := by
        by_cases h3 : kb (B a) = 3
        · have e : toE B n a = a + 1 := by
            unfold toE
            rw [if_pos h3]
          rw [e, h3, b_Reader_split_25]
          simp only [ax_psh_none, ax_psh_some, true_and, and_true, and_false, false_and, not_true_eq_false, not_false_eq_true, true_imp_iff, false_imp_iff, imp_self, or_true, true_or, or_false, false_or, and_self, ite_true, ite_false, if_true, if_false]
        · have e : toE B n a = rEnd B n (kb (B a)) 400 (a + 1) := by
            unfold toE
            rw [if_neg h3]
          rw [e]
          exact rd_run (d := d + 6) hT hn h3 hkb4 400 (a + 1) (by omega) (by omega)
      rw [b_Reader_split_7]
      simp (disch := omega) only [b_Reader_split_12, b_Reader_split_23, hlt, ht.1, c_kindOf _ _ _ _ ht.2, n32_add, n32_mul, n32_lt, n32_le, n32_eq, n32_clamp, n32_inT, n32_div, n32_rem, n32_m1, n32_m1', n32_m1lt, n32_ltm1, n32_10, n32_01, Nat.not_lt_zero, Nat.lt_irrefl, Nat.mul_zero, Nat.zero_mul, Nat.zero_add, Nat.add_zero, Nat.reduceEqDiff, Nat.one_ne_zero, Nat.zero_ne_one, ax_psh_none, ax_psh_some, true_and, and_true, and_false, false_and, not_true_eq_false, not_false_eq_true, true_imp_iff, false_imp_iff, imp_self, or_true, true_or, or_false, false_or, and_self, ite_true, ite_false, if_true, if_false]
      rw [run]
      by_cases hsp : B a = 32
      · have e : lexN B n (f + 1) a = lexN B n f (toE B n a) := by
          show (if a < n then _ else _) = _
          rw [if_pos hlt, if_pos hsp]
        rw [e] at hq
        simp (disch := omega) only [b_Reader_split_55, b_Reader_split_79, ht.1, hsp, n32_add, n32_mul, n32_lt, n32_le, n32_eq, n32_clamp, n32_inT, n32_div, n32_rem, n32_m1, n32_m1', n32_m1lt, n32_ltm1, n32_10, n32_01, Nat.not_lt_zero, Nat.lt_irrefl, Nat.mul_zero, Nat.zero_mul, Nat.zero_add, Nat.add_zero, Nat.reduceEqDiff, Nat.one_ne_zero, Nat.zero_ne_one, ax_psh_none, ax_psh_some, true_and, and_true, and_false, false_and, not_true_eq_false, not_false_eq_true, true_imp_iff, false_imp_iff, imp_self, or_true, true_or, or_false, false_or, and_self, ite_true, ite_false, if_true, if_false]
        exact ih gi (toE B n a) i _ _ (by omega) g2 (by omega) hS hT hi hq
      · have e : lexN B n (f + 1) a = (a, tcd B n a, tvl B n a) :: lexN B n f (toE B n a) := by
          show (if a < n then _ else _) = _
          rw [if_pos hlt, if_neg hsp]
        rw [e] at hq
        simp (disch := omega) only [b_Reader_split_55, b_Reader_split_63, b_Reader_split_75, b_Reader_split_79, ht.1, hsp, c_valueOf _ _ _ _ hS hT hlt hn, c_keep _ hG hi (by omega : i ≤ 400), n32_add, n32_mul, n32_lt, n32_le, n32_eq, n32_clamp, n32_inT, n32_div, n32_rem, n32_m1, n32_m1', n32_m1lt, n32_ltm1, n32_10, n32_01, Nat.not_lt_zero, Nat.lt_irrefl, Nat.mul_zero, Nat.zero_mul, Nat.zero_add, Nat.add_zero, Nat.reduceEqDiff, Nat.one_ne_zero, Nat.zero_ne_one, ax_psh_none, ax_psh_some, true_and, and_true, and_false, false_and, not_true_eq_false, not_false_eq_true, true_imp_iff, false_imp_iff, imp_self, or_true, true_or, or_false, false_or, and_self, ite_true, ite_false, if_true, if_false]
        have fr1 : Fr spMod gi (keepG gi i (n32 (kb (B a))) (kvl (tcd B n a) (tvl B n a)) (n32 a)) := Fr_keep (Fr_refl _ _)
        have kg := keepG_at gi i (n32 (kb (B a))) (kvl (tcd B n a) (tvl B n a)) (n32 a)
        refine ih _ (toE B n a) (i + 1) _ _ (by omega) g2 (by omega) (StrOK_fr hS fr1) (TapeC_fr hT fr1) (kg 0).2.2.2 ?_
        intro gi' fr h3 hst hlow
        have l0 := hlow i (by omega)
        refine hq gi' (Fr_trans fr1 fr) ?_ ⟨?_, ?_, ?_, hst⟩ (fun j hj => ?_)
        · rw [h3]
          simp only [List.length_cons]
          congr 1
          omega
        · rw [kcd_tcd]
          exact l0.1.trans ((kg i).1.trans (if_pos rfl))
        · exact l0.2.1.trans ((kg i).2.1.trans (if_pos rfl))
        · exact l0.2.2.trans ((kg i).2.2.1.trans (if_pos rfl))
        · have l1 := hlow j (by omega)
          exact ⟨l1.1.trans ((kg j).1.trans (if_neg (by omega))), l1.2.1.trans ((kg j).2.1.trans (if_neg (by omega))), l1.2.2.trans ((kg j).2.2.1.trans (if_neg (by omega)))⟩
    · have e : lexN B n (f + 1) a = [] := by
        show (if a < n then _ else _) = _
        rw [if_neg hlt]
      rw [e] at hq
      exact fin gi a i o4 o5 hlt h2 hia hi hq
/-- a text split by the class -/
theorem c_split {B : Nat → Nat} {n d : Nat} {gi : GI} {g : AG} {Q : Option AV → AH → Prop} (hG : GOK g) (hn : n ≤ 400) (hS : StrOK gi g) (hT : TapeC gi B)
    (hq : ∀ gi', Fr spMod gi gi' → StC (gi' 31 0) (gi' 32 0) (gi' 33 0) n 0 (lx B n) → Q none (gi', g)) : ax_call (d + 9) m_Reader_split [.inr (.inr (some (6, 0))), .inr (.inr (some (22, 0))), .inl (n32 n)] (gi, g) Q := by
  rw [e_Reader_split, b_Reader_split_0]
  have fr1 : Fr spMod gi (ax_wI gi 6 0 3 (n32 0)) := Fr_wI (Fr_refl _ _) rfl
  refine rd_split_loop (B := B) hG hn 401 _ 0 0 _ _ (by omega) (by omega) (by omega) (StrOK_fr hS fr1) (TapeC_fr hT fr1) (by simp [wI_at]) ?_
  intro gi' fr h3 hst hlow
  exact hq gi' (Fr_trans fr1 fr) hst
