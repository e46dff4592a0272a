/-! row -/
theorem refC_wI {gi : GI} {s a j k : Nat} {v x : Int32} (h : s ≠ 0) (h2 : s ≠ 23) : ax_wI (refC gi x k) s a j v = refC (ax_wI gi s a j v) x k := by
  funext s' a' j'
  rw [wI_at]
  by_cases z : s' = s ∧ a' = a ∧ j' = j
  · rw [if_pos z, refC_at, if_neg (by omega), if_neg (by omega), wI_at, if_pos z]
  · rw [if_neg z, refC_at, refC_at, wI_ne (fun q => h2 q.symm), wI_at, if_neg z]
theorem SB_win {y : Int32} {b : Nat} (h : SB y b) : (b ≤ 9 ∧ y = n32 b ∧ win y (n32 0) (n32 9) = n32 1) ∨ (9 < b ∧ win y (n32 0) (n32 9) = n32 0) := by
  obtain ⟨h1, h2, h3, -⟩ := h
  rcases Nat.lt_or_ge b 128 with q | q
  · have e := h2 q
    rcases Nat.lt_or_ge 9 b with z | z
    · right
      refine ⟨z, ?_⟩
      rw [e]
      have := win_in (k := b) (a := 0) (b := 9) (by omega) (by omega) (by omega)
      rw [this]
      omega
    · left
      refine ⟨z, e, ?_⟩
      rw [e]
      exact win_yes (by omega) z (by omega)
  · right
    refine ⟨by omega, ?_⟩
    unfold win
    rw [if_pos (h3 q)]
theorem SB_thing {y : Int32} {b nt : Nat} (h : SB y b) (hn : nt ≤ 6) : (b < nt ∧ y = n32 b) ∨ (nt ≤ b ∧ win y (n32 0) (n32 nt - n32 1) = n32 0) := by
  obtain ⟨h1, h2, h3, -⟩ := h
  rcases Nat.lt_or_ge b nt with q | q
  · exact Or.inl ⟨q, h2 (by omega)⟩
  · right
    refine ⟨q, ?_⟩
    rcases win_cases y nt (by omega) with ⟨k, hk, rfl⟩ | hw
    · exfalso
      rcases Nat.lt_or_ge b 128 with z | z
      · have := h2 z
        rw [n32_eq (by omega) (by omega)] at this
        omega
      · have := h3 z
        rw [n32_neg (by omega)] at this
        exact this
    · exact hw
/-- what a row paints -/
def rowB (B b : Nat → Nat) (i c : Nat) : Nat := if c < i ∧ B (c + 1) < 10 then B (c + 1) else b c
def rowN (B : Nat → Nat) (i : Nat) : Nat := sumN (fun c => if B (c + 1) < 10 then 1 else 0) i
theorem rowB_up_y {B b : Nat → Nat} {i : Nat} (h : B (i + 1) < 10) (c : Nat) : rowB B b (i + 1) c = if c = i then B (i + 1) else rowB B b i c := by
  unfold rowB
  by_cases z : c = i
  · rw [if_pos z, z, if_pos ⟨by omega, h⟩]
  · rw [if_neg z]
    by_cases q : c < i ∧ B (c + 1) < 10
    · rw [if_pos q, if_pos ⟨by omega, q.2⟩]
    · rw [if_neg q, if_neg (by omega)]
theorem rowB_up_n {B b : Nat → Nat} {i : Nat} (h : ¬ B (i + 1) < 10) (c : Nat) : rowB B b (i + 1) c = rowB B b i c := by
  unfold rowB
  by_cases q : c < i ∧ B (c + 1) < 10
  · rw [if_pos q, if_pos ⟨by omega, q.2⟩]
  · rw [if_neg q]
    by_cases z : c = i
    · rw [if_neg (by rw [z]; exact fun w => h w.2)]
    · rw [if_neg (by omega)]
theorem rowB_zero (B b : Nat → Nat) (c : Nat) : rowB B b 0 c = b c := by
  unfold rowB
  rw [if_neg (by omega)]
def rowG (W T len : Nat) : Nat := if W * T < len - 1 then W * T else len - 1
theorem c_S_row {d t nt W T O len : Nat} {B b : Nat → Nat} {gi : GI} {g : AG} {Q : Option AV → AH → Prop} (hG : GOK g) (b1 : gi 1 0 1 = n32 nt) (n6 : nt ≤ 6) (ht : t < nt) (hB0 : B 0 = t) (hc : ThC gi t W T O b) (h4 : gi 0 0 4 = n32 len) (hl : 1 ≤ len ∧ len ≤ 400) (hT : TapeC gi B)
    (hq : ∀ gi', (∀ s a j, ¬ (s = 0 ∧ a = 0 ∧ (j = 4 ∨ j = 6)) → ¬ (s = 29 ∧ a = t) → gi' s a j = gi s a j) → gi' 0 0 4 = n32 0 → gi' 0 0 6 = n32 (len - 1 - rowG W T len) → (∀ c, c < 64 → gi' 29 t c = n32 (rowB B b (rowG W T len) c)) → Q (some (.inl (n32 (rowN B (rowG W T len))))) (donC gi', g)) :
    ax_call (d + 4) m_S_row [.inr (.inr (some (0, 0)))] (gi, g) Q := by
  have h64 := wt64 hc.2.2.2.1.2 hc.2.2.2.2.1.2
  have hpos : 0 < len := by omega
  have c0 : (n32 0).toNatClampNeg = 0 := by decide
  have e22 : ∀ v, ax_wI gi 0 0 4 v 22 0 0 = n32 t := fun v => by
    rw [wI_ne (by decide), (hT 0 (by omega)).1, hB0]
  have e1 : ∀ v, ax_wI gi 0 0 4 v 1 0 1 = n32 nt := fun v => by rw [wI_ne (by decide), b1]
  have e20 : ∀ v, ax_wI gi 0 0 4 v 2 t 0 = n32 W := fun v => by rw [wI_ne (by decide), hc.1]
  have e21 : ∀ v, ax_wI gi 0 0 4 v 2 t 1 = n32 T := fun v => by rw [wI_ne (by decide), hc.2.1]
  have sb : n32 len - n32 1 = n32 (len - 1) := n32_sub (by omega)
  have hgv : (if W * T < len - 1 then n32 (W * T) else n32 (len - 1)) = n32 (rowG W T len) := by
    unfold rowG
    by_cases z : W * T < len - 1
    · rw [if_pos z, if_pos z]
    · rw [if_neg z, if_neg z]
  have g1 : rowG W T len ≤ 64 ∧ rowG W T len + 1 ≤ len := by
    unfold rowG
    split <;> omega
  have sb2 : n32 (len - 1) - n32 (rowG W T len) = n32 (len - 1 - rowG W T len) := n32_sub (by omega)
  have key := loop_up (n := rowG W T len) (P := fun i => ∀ (gi1 : GI) o6, (∀ s a j, ¬ (s = 0 ∧ a = 0 ∧ j = 4) → ¬ (s = 29 ∧ a = t) → gi1 s a j = gi s a j) → gi1 0 0 4 = n32 0 → (∀ c, c < 64 → gi1 29 t c = n32 (rowB B b i c)) → Runs (d + 3) (m_S_row, 60, [some (.inr (.inr (some (0, 0)))), some (.inl (n32 len)), some (.inr (.inr (some (2, t)))), some (.inl (n32 (rowG W T len))), some (.inl (n32 (rowN B i))), some (.inl (n32 i)), o6], []) (gi1, g) Q) ?_ ?_
  · rw [e_S_row, b_S_row_0]
    simp (disch := omega) only [h4, hpos, b_S_row_14, b_S_row_27b, b_S_row_31b, b_S_row_43, b_S_row_50, e22, c0, c_Books_thingAt _ _ _ _ hG (e1 _) n6 ht, c_Thing_area _ _ _ _ (e20 _) (e21 _), sb, hgv, G_0_0 hG, G_0_1 hG, G_0_2 hG, G_0_3 hG, G_0_7 hG, G_0_10 hG, G_0_12 hG, G_0_13 hG, G_0_14 hG, G_0_15 hG, G_0_16 hG, G_0_17 hG, G_1_0 hG, G_1_2 hG, G_1_5 hG, G_2_4 hG, G_2_5 hG, G_3_5 hG, G_3_6 hG, G_3_7 hG, G_3_8 hG, G_3_9 hG, G_5_0 hG, G_5_1 hG, G_6_0 hG, G_6_1 hG, G_6_2 hG, G_6_9 hG, G_6_10 hG, G_6_11 hG, G_6_12 hG, G_6_13 hG, G_7_0 hG, G_7_5 hG, G_8_8 hG, G_8_9 hG, G_9_8 hG, G_9_9 hG, G_10_7 hG, G_10_8 hG, G_10_9 hG, G_10_10 hG, G_10_11 hG, G_11_0 hG, G_12_2 hG, G_12_3 hG, G_12_4 hG, G_12_5 hG, G_12_7 hG, G_12_8 hG, G_12_9 hG, G_12_12 hG, G_12_13 hG, G_12_14 hG, G_12_22 hG, G_12_23 hG, G_12_29 hG, G_12_30 hG, G_12_31 hG, G_12_37 hG, G_12_38 hG, G_12_39 hG, G_12_40 hG, G_12_41 hG, G_12_43 hG, G_12_46 hG, G_12_47 hG, G_12_48 hG, G_25 hG, G_26 hG, G_47 hG, G_58 hG, n32_add, n32_mul, n32_lt, n32_le, n32_eq, n32_clamp, n32_inT, n32_div, n32_rem, n32_m1, n32_m1', n32_m1lt, n32_ltm1, n32_10, n32_01, Nat.not_lt_zero, Nat.lt_irrefl, Nat.mul_zero, Nat.zero_mul, Nat.zero_add, Nat.add_zero, Nat.reduceEqDiff, Nat.one_ne_zero, Nat.zero_ne_one, ax_psh_none, ax_psh_some, true_and, and_true, and_false, false_and, not_true_eq_false, not_false_eq_true, true_imp_iff, false_imp_iff, imp_self, or_true, true_or, or_false, false_or, and_self, ite_true, ite_false, if_true, if_false]
    refine key 0 (Nat.zero_le _) _ _ ?_ ?_ ?_
    · intro s a j q1 q2
      rw [wI_at, if_neg q1]
    · rw [wI_self]
    · intro c hc'
      rw [wI_ne (by decide), rowB_zero]
      exact (hc.2.2.2.2.2 c hc').1
  · intro i hi ih gi1 o6 f1 f4 f2
    have eB := hT (i + 1) (by omega)
    have et : gi1 22 0 (i + 1) = n32 (B (i + 1)) := (f1 22 0 (i + 1) (by omega) (by omega)).trans eB.1
    rw [b_S_row_60]
    by_cases z : B (i + 1) < 10
    · have z9 : B (i + 1) ≤ 9 := by omega
      simp (disch := omega) only [b_S_row_66, b_S_row_85, b_S_row_88, b_S_row_100, hi, et, c_S_within, win_T, G_0_0 hG, G_0_1 hG, G_0_2 hG, G_0_3 hG, G_0_7 hG, G_0_10 hG, G_0_12 hG, G_0_13 hG, G_0_14 hG, G_0_15 hG, G_0_16 hG, G_0_17 hG, G_1_0 hG, G_1_2 hG, G_1_5 hG, G_2_4 hG, G_2_5 hG, G_3_5 hG, G_3_6 hG, G_3_7 hG, G_3_8 hG, G_3_9 hG, G_5_0 hG, G_5_1 hG, G_6_0 hG, G_6_1 hG, G_6_2 hG, G_6_9 hG, G_6_10 hG, G_6_11 hG, G_6_12 hG, G_6_13 hG, G_7_0 hG, G_7_5 hG, G_8_8 hG, G_8_9 hG, G_9_8 hG, G_9_9 hG, G_10_7 hG, G_10_8 hG, G_10_9 hG, G_10_10 hG, G_10_11 hG, G_11_0 hG, G_12_2 hG, G_12_3 hG, G_12_4 hG, G_12_5 hG, G_12_7 hG, G_12_8 hG, G_12_9 hG, G_12_12 hG, G_12_13 hG, G_12_14 hG, G_12_22 hG, G_12_23 hG, G_12_29 hG, G_12_30 hG, G_12_31 hG, G_12_37 hG, G_12_38 hG, G_12_39 hG, G_12_40 hG, G_12_41 hG, G_12_43 hG, G_12_46 hG, G_12_47 hG, G_12_48 hG, G_25 hG, G_26 hG, G_47 hG, G_58 hG, n32_add, n32_mul, n32_lt, n32_le, n32_eq, n32_clamp, n32_inT, n32_div, n32_rem, n32_m1, n32_m1', n32_m1lt, n32_ltm1, n32_10, n32_01, Nat.not_lt_zero, Nat.lt_irrefl, Nat.mul_zero, Nat.zero_mul, Nat.zero_add, Nat.add_zero, Nat.reduceEqDiff, Nat.one_ne_zero, Nat.zero_ne_one, ax_psh_none, ax_psh_some, true_and, and_true, and_false, false_and, not_true_eq_false, not_false_eq_true, true_imp_iff, false_imp_iff, imp_self, or_true, true_or, or_false, false_or, and_self, ite_true, ite_false, if_true, if_false]
      have hr : rowN B (i + 1) = rowN B i + 1 := by
        unfold rowN
        rw [sumN_succ, if_pos z]
      have := ih (ax_wI gi1 29 t i (n32 (B (i + 1)))) (some (.inl (n32 (B (i + 1))))) ?_ ?_ ?_
      · rw [hr] at this
        exact this
      · intro s a j q1 q2
        rw [wI_at, if_neg (by omega)]
        exact f1 s a j q1 q2
      · rw [wI_ne (by decide), f4]
      · intro c hc'
        rw [wI_at, rowB_up_y z]
        by_cases q : c = i
        · rw [if_pos ⟨rfl, rfl, q⟩, if_pos q]
        · rw [if_neg (by omega), if_neg q]
          exact f2 c hc'
    · have hz : win (n32 (B (i + 1))) (n32 0) (n32 9) = n32 0 := by
        rw [win_in (by omega) (by omega) (by omega)]
        omega
      simp (disch := omega) only [b_S_row_66, b_S_row_85, b_S_row_100, hi, et, c_S_within, hz, G_0_0 hG, G_0_1 hG, G_0_2 hG, G_0_3 hG, G_0_7 hG, G_0_10 hG, G_0_12 hG, G_0_13 hG, G_0_14 hG, G_0_15 hG, G_0_16 hG, G_0_17 hG, G_1_0 hG, G_1_2 hG, G_1_5 hG, G_2_4 hG, G_2_5 hG, G_3_5 hG, G_3_6 hG, G_3_7 hG, G_3_8 hG, G_3_9 hG, G_5_0 hG, G_5_1 hG, G_6_0 hG, G_6_1 hG, G_6_2 hG, G_6_9 hG, G_6_10 hG, G_6_11 hG, G_6_12 hG, G_6_13 hG, G_7_0 hG, G_7_5 hG, G_8_8 hG, G_8_9 hG, G_9_8 hG, G_9_9 hG, G_10_7 hG, G_10_8 hG, G_10_9 hG, G_10_10 hG, G_10_11 hG, G_11_0 hG, G_12_2 hG, G_12_3 hG, G_12_4 hG, G_12_5 hG, G_12_7 hG, G_12_8 hG, G_12_9 hG, G_12_12 hG, G_12_13 hG, G_12_14 hG, G_12_22 hG, G_12_23 hG, G_12_29 hG, G_12_30 hG, G_12_31 hG, G_12_37 hG, G_12_38 hG, G_12_39 hG, G_12_40 hG, G_12_41 hG, G_12_43 hG, G_12_46 hG, G_12_47 hG, G_12_48 hG, G_25 hG, G_26 hG, G_47 hG, G_58 hG, n32_add, n32_mul, n32_lt, n32_le, n32_eq, n32_clamp, n32_inT, n32_div, n32_rem, n32_m1, n32_m1', n32_m1lt, n32_ltm1, n32_10, n32_01, Nat.not_lt_zero, Nat.lt_irrefl, Nat.mul_zero, Nat.zero_mul, Nat.zero_add, Nat.add_zero, Nat.reduceEqDiff, Nat.one_ne_zero, Nat.zero_ne_one, ax_psh_none, ax_psh_some, true_and, and_true, and_false, false_and, not_true_eq_false, not_false_eq_true, true_imp_iff, false_imp_iff, imp_self, or_true, true_or, or_false, false_or, and_self, ite_true, ite_false, if_true, if_false]
      have hr : rowN B (i + 1) = rowN B i := by
        unfold rowN
        rw [sumN_succ, if_neg z, Nat.add_zero]
      have := ih gi1 (some (.inl (n32 (B (i + 1))))) f1 f4 ?_
      · rw [hr] at this
        exact this
      · intro c hc'
        rw [rowB_up_n z]
        exact f2 c hc'
  · intro gi1 o6 f1 f4 f2
    rw [b_S_row_60]
    simp (disch := omega) only [b_S_row_106, b_S_row_121, sb, sb2, c_S_done, G_0_0 hG, G_0_1 hG, G_0_2 hG, G_0_3 hG, G_0_7 hG, G_0_10 hG, G_0_12 hG, G_0_13 hG, G_0_14 hG, G_0_15 hG, G_0_16 hG, G_0_17 hG, G_1_0 hG, G_1_2 hG, G_1_5 hG, G_2_4 hG, G_2_5 hG, G_3_5 hG, G_3_6 hG, G_3_7 hG, G_3_8 hG, G_3_9 hG, G_5_0 hG, G_5_1 hG, G_6_0 hG, G_6_1 hG, G_6_2 hG, G_6_9 hG, G_6_10 hG, G_6_11 hG, G_6_12 hG, G_6_13 hG, G_7_0 hG, G_7_5 hG, G_8_8 hG, G_8_9 hG, G_9_8 hG, G_9_9 hG, G_10_7 hG, G_10_8 hG, G_10_9 hG, G_10_10 hG, G_10_11 hG, G_11_0 hG, G_12_2 hG, G_12_3 hG, G_12_4 hG, G_12_5 hG, G_12_7 hG, G_12_8 hG, G_12_9 hG, G_12_12 hG, G_12_13 hG, G_12_14 hG, G_12_22 hG, G_12_23 hG, G_12_29 hG, G_12_30 hG, G_12_31 hG, G_12_37 hG, G_12_38 hG, G_12_39 hG, G_12_40 hG, G_12_41 hG, G_12_43 hG, G_12_46 hG, G_12_47 hG, G_12_48 hG, G_25 hG, G_26 hG, G_47 hG, G_58 hG, n32_add, n32_mul, n32_lt, n32_le, n32_eq, n32_clamp, n32_inT, n32_div, n32_rem, n32_m1, n32_m1', n32_m1lt, n32_ltm1, n32_10, n32_01, Nat.not_lt_zero, Nat.lt_irrefl, Nat.mul_zero, Nat.zero_mul, Nat.zero_add, Nat.add_zero, Nat.reduceEqDiff, Nat.one_ne_zero, Nat.zero_ne_one, ax_psh_none, ax_psh_some, true_and, and_true, and_false, false_and, not_true_eq_false, not_false_eq_true, true_imp_iff, false_imp_iff, imp_self, or_true, true_or, or_false, false_or, and_self, ite_true, ite_false, if_true, if_false]
    refine hq _ ?_ ?_ ?_ ?_
    · intro s a j q1 q2
      rw [wI_at, if_neg (by omega)]
      exact f1 s a j (by omega) q2
    · rw [wI_at, if_neg (by omega), f4]
    · rw [wI_self]
    · intro c hc'
      rw [wI_ne (by decide)]
      exact f2 c hc'
theorem c_M_row {d t nt W T O len : Nat} {B b : Nat → Nat} {gi : GI} {g : AG} {Q : Option AV → AH → Prop} (hG : GOK g) (k796 : gi 64 0 796 = n32 nt) (n6 : nt ≤ 6) (ht : t < nt) (hB0 : gi 68 0 0 = n32 t) (hm : ThM gi t W T O b) (h4 : gi 12 0 10 = n32 len) (hl : 1 ≤ len ∧ len ≤ 400) (hT : TapeM gi B)
    (hq : ∀ gi', (∀ s a j, ¬ (s = 12 ∧ a = 0 ∧ (j = 10 ∨ j = 6)) → ¬ (s = 64 ∧ a = 0 ∧ 132 * t + 4 ≤ j ∧ j < 132 * t + 68) → gi' s a j = gi s a j) → gi' 12 0 10 = n32 0 → gi' 12 0 6 = n32 (len - 1 - rowG W T len) → (∀ c, c < 64 → gi' 64 0 (132 * t + (4 + c)) = n32 (rowB B b (rowG W T len) c)) → Q (some (.inl (n32 (rowN B (rowG W T len))))) (donM gi', g)) :
    ax_call (d + 4) m_M_row [.inr (.inr (some (12, 0)))] (gi, g) Q := by
  have h64 := wt64 hm.2.2.2.1.2 hm.2.2.2.2.1.2
  have hpos : ¬ len = 0 := by omega
  have c0 : (n32 0).toNatClampNeg = 0 := by decide
  have e68 : ∀ v, ax_wI gi 12 0 10 v 68 0 0 = n32 t := fun v => by rw [wI_ne (by decide), hB0]
  have e796 : ∀ v, ax_wI gi 12 0 10 v 64 0 796 = n32 nt := fun v => by rw [wI_ne (by decide), k796]
  have sb : n32 len - n32 1 = n32 (len - 1) := n32_sub (by omega)
  have g1 : rowG W T len ≤ W * T ∧ rowG W T len + 1 ≤ len ∧ (rowG W T len < W * T → rowG W T len + 1 = len) := by
    unfold rowG
    split <;> omega
  have key := loop_up (n := rowG W T len) (P := fun i => ∀ (gi1 : GI), (∀ s a j, ¬ (s = 12 ∧ a = 0 ∧ j = 10) → ¬ (s = 64 ∧ a = 0 ∧ 132 * t + 4 ≤ j ∧ j < 132 * t + 68) → gi1 s a j = gi s a j) → gi1 12 0 10 = n32 0 → (∀ c, c < 64 → gi1 64 0 (132 * t + (4 + c)) = n32 (rowB B b i c)) → Runs (d + 3) (m_M_row, 46, [some (.inr (.inr (some (12, 0)))), some (.inl (n32 len)), some (.inl (n32 t)), some (.inl (n32 (rowN B i))), some (.inl (n32 i))], []) (gi1, g) Q) ?_ ?_
  · rw [e_M_row, b_M_row_0]
    simp (disch := omega) only [h4, hpos, b_M_row_14, b_M_row_24, b_M_row_34, e68, c0, c_M_isThing _ _ _ _ hG, e796, win_sT ht (by omega), G_0_0 hG, G_0_1 hG, G_0_2 hG, G_0_3 hG, G_0_7 hG, G_0_10 hG, G_0_12 hG, G_0_13 hG, G_0_14 hG, G_0_15 hG, G_0_16 hG, G_0_17 hG, G_1_0 hG, G_1_2 hG, G_1_5 hG, G_2_4 hG, G_2_5 hG, G_3_5 hG, G_3_6 hG, G_3_7 hG, G_3_8 hG, G_3_9 hG, G_5_0 hG, G_5_1 hG, G_6_0 hG, G_6_1 hG, G_6_2 hG, G_6_9 hG, G_6_10 hG, G_6_11 hG, G_6_12 hG, G_6_13 hG, G_7_0 hG, G_7_5 hG, G_8_8 hG, G_8_9 hG, G_9_8 hG, G_9_9 hG, G_10_7 hG, G_10_8 hG, G_10_9 hG, G_10_10 hG, G_10_11 hG, G_11_0 hG, G_12_2 hG, G_12_3 hG, G_12_4 hG, G_12_5 hG, G_12_7 hG, G_12_8 hG, G_12_9 hG, G_12_12 hG, G_12_13 hG, G_12_14 hG, G_12_22 hG, G_12_23 hG, G_12_29 hG, G_12_30 hG, G_12_31 hG, G_12_37 hG, G_12_38 hG, G_12_39 hG, G_12_40 hG, G_12_41 hG, G_12_43 hG, G_12_46 hG, G_12_47 hG, G_12_48 hG, G_25 hG, G_26 hG, G_47 hG, G_58 hG, n32_add, n32_mul, n32_lt, n32_le, n32_eq, n32_clamp, n32_inT, n32_div, n32_rem, n32_m1, n32_m1', n32_m1lt, n32_ltm1, n32_10, n32_01, Nat.not_lt_zero, Nat.lt_irrefl, Nat.mul_zero, Nat.zero_mul, Nat.zero_add, Nat.add_zero, Nat.reduceEqDiff, Nat.one_ne_zero, Nat.zero_ne_one, ax_psh_none, ax_psh_some, true_and, and_true, and_false, false_and, not_true_eq_false, not_false_eq_true, true_imp_iff, false_imp_iff, imp_self, or_true, true_or, or_false, false_or, and_self, ite_true, ite_false, if_true, if_false]
    refine key 0 (Nat.zero_le _) _ ?_ ?_ ?_
    · intro s a j q1 q2
      rw [wI_at, if_neg q1]
    · rw [wI_self]
    · intro c hc'
      rw [wI_ne (by decide), rowB_zero]
      exact (hm.2.2.2.2.2 c hc').1
  · intro i hi ih gi1 f1 f4 f2
    have eB := hT (i + 1) (by omega)
    have w0 : gi1 64 0 (132 * t) = n32 W := (f1 64 0 _ (by omega) (by omega)).trans hm.1
    have w1 : gi1 64 0 (132 * t + 1) = n32 T := (f1 64 0 _ (by omega) (by omega)).trans hm.2.1
    have q1 : i < W * T := by omega
    have q2 : i + 1 < len := by omega
    have e68' : gi1 68 0 (i + 1) = gi 68 0 (i + 1) := f1 68 0 (i + 1) (by omega) (by omega)
    rw [b_M_row_46]
    rcases SB_win eB with ⟨z, ez, hz⟩ | ⟨z, hz⟩
    · rw [ez] at e68'
      simp (disch := omega) only [b_M_row_53, b_M_row_56, b_M_row_64, b_M_row_79, b_M_row_85, b_M_row_112, c_M_areaOf _ _ _ _ hG (by omega : t < 6) w0 w1, q1, q2, e68', c_M_lies, win_T, G_0_0 hG, G_0_1 hG, G_0_2 hG, G_0_3 hG, G_0_7 hG, G_0_10 hG, G_0_12 hG, G_0_13 hG, G_0_14 hG, G_0_15 hG, G_0_16 hG, G_0_17 hG, G_1_0 hG, G_1_2 hG, G_1_5 hG, G_2_4 hG, G_2_5 hG, G_3_5 hG, G_3_6 hG, G_3_7 hG, G_3_8 hG, G_3_9 hG, G_5_0 hG, G_5_1 hG, G_6_0 hG, G_6_1 hG, G_6_2 hG, G_6_9 hG, G_6_10 hG, G_6_11 hG, G_6_12 hG, G_6_13 hG, G_7_0 hG, G_7_5 hG, G_8_8 hG, G_8_9 hG, G_9_8 hG, G_9_9 hG, G_10_7 hG, G_10_8 hG, G_10_9 hG, G_10_10 hG, G_10_11 hG, G_11_0 hG, G_12_2 hG, G_12_3 hG, G_12_4 hG, G_12_5 hG, G_12_7 hG, G_12_8 hG, G_12_9 hG, G_12_12 hG, G_12_13 hG, G_12_14 hG, G_12_22 hG, G_12_23 hG, G_12_29 hG, G_12_30 hG, G_12_31 hG, G_12_37 hG, G_12_38 hG, G_12_39 hG, G_12_40 hG, G_12_41 hG, G_12_43 hG, G_12_46 hG, G_12_47 hG, G_12_48 hG, G_25 hG, G_26 hG, G_47 hG, G_58 hG, n32_add, n32_mul, n32_lt, n32_le, n32_eq, n32_clamp, n32_inT, n32_div, n32_rem, n32_m1, n32_m1', n32_m1lt, n32_ltm1, n32_10, n32_01, Nat.not_lt_zero, Nat.lt_irrefl, Nat.mul_zero, Nat.zero_mul, Nat.zero_add, Nat.add_zero, Nat.reduceEqDiff, Nat.one_ne_zero, Nat.zero_ne_one, ax_psh_none, ax_psh_some, true_and, and_true, and_false, false_and, not_true_eq_false, not_false_eq_true, true_imp_iff, false_imp_iff, imp_self, or_true, true_or, or_false, false_or, and_self, ite_true, ite_false, if_true, if_false]
      have hr : rowN B (i + 1) = rowN B i + 1 := by
        unfold rowN
        rw [sumN_succ, if_pos (by omega)]
      have := ih (ax_wI gi1 64 0 (132 * t + 4 + i) (n32 (B (i + 1)))) ?_ ?_ ?_
      · rw [hr] at this
        exact this
      · intro s a j p1 p2
        rw [wI_at, if_neg (by omega)]
        exact f1 s a j p1 p2
      · rw [wI_ne (by decide), f4]
      · intro c hc'
        rw [wI_at, rowB_up_y (by omega)]
        by_cases q : c = i
        · rw [if_pos ⟨rfl, rfl, by omega⟩, if_pos q]
        · rw [if_neg (by omega), if_neg q]
          exact f2 c hc'
    · simp (disch := omega) only [b_M_row_53, b_M_row_56, b_M_row_64, b_M_row_79, b_M_row_82, b_M_row_112, c_M_areaOf _ _ _ _ hG (by omega : t < 6) w0 w1, q1, q2, e68', c_M_lies, hz, G_0_0 hG, G_0_1 hG, G_0_2 hG, G_0_3 hG, G_0_7 hG, G_0_10 hG, G_0_12 hG, G_0_13 hG, G_0_14 hG, G_0_15 hG, G_0_16 hG, G_0_17 hG, G_1_0 hG, G_1_2 hG, G_1_5 hG, G_2_4 hG, G_2_5 hG, G_3_5 hG, G_3_6 hG, G_3_7 hG, G_3_8 hG, G_3_9 hG, G_5_0 hG, G_5_1 hG, G_6_0 hG, G_6_1 hG, G_6_2 hG, G_6_9 hG, G_6_10 hG, G_6_11 hG, G_6_12 hG, G_6_13 hG, G_7_0 hG, G_7_5 hG, G_8_8 hG, G_8_9 hG, G_9_8 hG, G_9_9 hG, G_10_7 hG, G_10_8 hG, G_10_9 hG, G_10_10 hG, G_10_11 hG, G_11_0 hG, G_12_2 hG, G_12_3 hG, G_12_4 hG, G_12_5 hG, G_12_7 hG, G_12_8 hG, G_12_9 hG, G_12_12 hG, G_12_13 hG, G_12_14 hG, G_12_22 hG, G_12_23 hG, G_12_29 hG, G_12_30 hG, G_12_31 hG, G_12_37 hG, G_12_38 hG, G_12_39 hG, G_12_40 hG, G_12_41 hG, G_12_43 hG, G_12_46 hG, G_12_47 hG, G_12_48 hG, G_25 hG, G_26 hG, G_47 hG, G_58 hG, n32_add, n32_mul, n32_lt, n32_le, n32_eq, n32_clamp, n32_inT, n32_div, n32_rem, n32_m1, n32_m1', n32_m1lt, n32_ltm1, n32_10, n32_01, Nat.not_lt_zero, Nat.lt_irrefl, Nat.mul_zero, Nat.zero_mul, Nat.zero_add, Nat.add_zero, Nat.reduceEqDiff, Nat.one_ne_zero, Nat.zero_ne_one, ax_psh_none, ax_psh_some, true_and, and_true, and_false, false_and, not_true_eq_false, not_false_eq_true, true_imp_iff, false_imp_iff, imp_self, or_true, true_or, or_false, false_or, and_self, ite_true, ite_false, if_true, if_false]
      have hr : rowN B (i + 1) = rowN B i := by
        unfold rowN
        rw [sumN_succ, if_neg (by omega), Nat.add_zero]
      have := ih gi1 f1 f4 ?_
      · rw [hr] at this
        exact this
      · intro c hc'
        rw [rowB_up_n (by omega)]
        exact f2 c hc'
  · intro gi1 f1 f4 f2
    have w0 : gi1 64 0 (132 * t) = n32 W := (f1 64 0 _ (by omega) (by omega)).trans hm.1
    have w1 : gi1 64 0 (132 * t + 1) = n32 T := (f1 64 0 _ (by omega) (by omega)).trans hm.2.1
    have fin : ∀ o4, Runs (d + 3) (m_M_row, 118, [some (.inr (.inr (some (12, 0)))), some (.inl (n32 len)), some (.inl (n32 t)), some (.inl (n32 (rowN B (rowG W T len)))), o4], []) (gi1, g) Q := by
      intro o4
      have done : ∀ x, x = n32 (len - 1 - rowG W T len) → Q (some (.inl (n32 (rowN B (rowG W T len))))) (donM (ax_wI gi1 12 0 6 x), g) := by
        intro x hx
        refine hq _ ?_ ?_ ?_ ?_
        · intro s a j p1 p2
          rw [wI_at, if_neg (by omega)]
          exact f1 s a j (by omega) p2
        · rw [wI_at, if_neg (by omega), f4]
        · rw [wI_self, hx]
        · intro c hc'
          rw [wI_ne (by decide)]
          exact f2 c hc'
      rw [b_M_row_118]
      by_cases z : W * T < len - 1
      · have sb2 : n32 (len - 1) - n32 (W * T) = n32 (len - 1 - W * T) := n32_sub (by omega)
        have eg : rowG W T len = W * T := by
          unfold rowG
          rw [if_pos z]
        simp (disch := omega) only [b_M_row_127, b_M_row_130, b_M_row_138, b_M_row_143, b_M_row_151, c_M_areaOf _ _ _ _ hG (by omega : t < 6) w0 w1, z, sb, sb2, c_M_good, G_0_0 hG, G_0_1 hG, G_0_2 hG, G_0_3 hG, G_0_7 hG, G_0_10 hG, G_0_12 hG, G_0_13 hG, G_0_14 hG, G_0_15 hG, G_0_16 hG, G_0_17 hG, G_1_0 hG, G_1_2 hG, G_1_5 hG, G_2_4 hG, G_2_5 hG, G_3_5 hG, G_3_6 hG, G_3_7 hG, G_3_8 hG, G_3_9 hG, G_5_0 hG, G_5_1 hG, G_6_0 hG, G_6_1 hG, G_6_2 hG, G_6_9 hG, G_6_10 hG, G_6_11 hG, G_6_12 hG, G_6_13 hG, G_7_0 hG, G_7_5 hG, G_8_8 hG, G_8_9 hG, G_9_8 hG, G_9_9 hG, G_10_7 hG, G_10_8 hG, G_10_9 hG, G_10_10 hG, G_10_11 hG, G_11_0 hG, G_12_2 hG, G_12_3 hG, G_12_4 hG, G_12_5 hG, G_12_7 hG, G_12_8 hG, G_12_9 hG, G_12_12 hG, G_12_13 hG, G_12_14 hG, G_12_22 hG, G_12_23 hG, G_12_29 hG, G_12_30 hG, G_12_31 hG, G_12_37 hG, G_12_38 hG, G_12_39 hG, G_12_40 hG, G_12_41 hG, G_12_43 hG, G_12_46 hG, G_12_47 hG, G_12_48 hG, G_25 hG, G_26 hG, G_47 hG, G_58 hG, n32_add, n32_mul, n32_lt, n32_le, n32_eq, n32_clamp, n32_inT, n32_div, n32_rem, n32_m1, n32_m1', n32_m1lt, n32_ltm1, n32_10, n32_01, Nat.not_lt_zero, Nat.lt_irrefl, Nat.mul_zero, Nat.zero_mul, Nat.zero_add, Nat.add_zero, Nat.reduceEqDiff, Nat.one_ne_zero, Nat.zero_ne_one, ax_psh_none, ax_psh_some, true_and, and_true, and_false, false_and, not_true_eq_false, not_false_eq_true, true_imp_iff, false_imp_iff, imp_self, or_true, true_or, or_false, false_or, and_self, ite_true, ite_false, if_true, if_false]
        exact done _ (by rw [eg])
      · have eg : rowG W T len = len - 1 := by
          unfold rowG
          rw [if_neg z]
        simp (disch := omega) only [b_M_row_127, b_M_row_142, b_M_row_143, b_M_row_151, c_M_areaOf _ _ _ _ hG (by omega : t < 6) w0 w1, z, sb, c_M_good, G_0_0 hG, G_0_1 hG, G_0_2 hG, G_0_3 hG, G_0_7 hG, G_0_10 hG, G_0_12 hG, G_0_13 hG, G_0_14 hG, G_0_15 hG, G_0_16 hG, G_0_17 hG, G_1_0 hG, G_1_2 hG, G_1_5 hG, G_2_4 hG, G_2_5 hG, G_3_5 hG, G_3_6 hG, G_3_7 hG, G_3_8 hG, G_3_9 hG, G_5_0 hG, G_5_1 hG, G_6_0 hG, G_6_1 hG, G_6_2 hG, G_6_9 hG, G_6_10 hG, G_6_11 hG, G_6_12 hG, G_6_13 hG, G_7_0 hG, G_7_5 hG, G_8_8 hG, G_8_9 hG, G_9_8 hG, G_9_9 hG, G_10_7 hG, G_10_8 hG, G_10_9 hG, G_10_10 hG, G_10_11 hG, G_11_0 hG, G_12_2 hG, G_12_3 hG, G_12_4 hG, G_12_5 hG, G_12_7 hG, G_12_8 hG, G_12_9 hG, G_12_12 hG, G_12_13 hG, G_12_14 hG, G_12_22 hG, G_12_23 hG, G_12_29 hG, G_12_30 hG, G_12_31 hG, G_12_37 hG, G_12_38 hG, G_12_39 hG, G_12_40 hG, G_12_41 hG, G_12_43 hG, G_12_46 hG, G_12_47 hG, G_12_48 hG, G_25 hG, G_26 hG, G_47 hG, G_58 hG, n32_add, n32_mul, n32_lt, n32_le, n32_eq, n32_clamp, n32_inT, n32_div, n32_rem, n32_m1, n32_m1', n32_m1lt, n32_ltm1, n32_10, n32_01, Nat.not_lt_zero, Nat.lt_irrefl, Nat.mul_zero, Nat.zero_mul, Nat.zero_add, Nat.add_zero, Nat.reduceEqDiff, Nat.one_ne_zero, Nat.zero_ne_one, ax_psh_none, ax_psh_some, true_and, and_true, and_false, false_and, not_true_eq_false, not_false_eq_true, true_imp_iff, false_imp_iff, imp_self, or_true, true_or, or_false, false_or, and_self, ite_true, ite_false, if_true, if_false]
        exact done _ (by rw [eg, Nat.sub_self])
    rw [b_M_row_46]
    by_cases z : rowG W T len < W * T
    · have q2 : ¬ rowG W T len + 1 < len := by omega
      simp (disch := omega) only [b_M_row_53, b_M_row_56, c_M_areaOf _ _ _ _ hG (by omega : t < 6) w0 w1, z, q2, G_0_0 hG, G_0_1 hG, G_0_2 hG, G_0_3 hG, G_0_7 hG, G_0_10 hG, G_0_12 hG, G_0_13 hG, G_0_14 hG, G_0_15 hG, G_0_16 hG, G_0_17 hG, G_1_0 hG, G_1_2 hG, G_1_5 hG, G_2_4 hG, G_2_5 hG, G_3_5 hG, G_3_6 hG, G_3_7 hG, G_3_8 hG, G_3_9 hG, G_5_0 hG, G_5_1 hG, G_6_0 hG, G_6_1 hG, G_6_2 hG, G_6_9 hG, G_6_10 hG, G_6_11 hG, G_6_12 hG, G_6_13 hG, G_7_0 hG, G_7_5 hG, G_8_8 hG, G_8_9 hG, G_9_8 hG, G_9_9 hG, G_10_7 hG, G_10_8 hG, G_10_9 hG, G_10_10 hG, G_10_11 hG, G_11_0 hG, G_12_2 hG, G_12_3 hG, G_12_4 hG, G_12_5 hG, G_12_7 hG, G_12_8 hG, G_12_9 hG, G_12_12 hG, G_12_13 hG, G_12_14 hG, G_12_22 hG, G_12_23 hG, G_12_29 hG, G_12_30 hG, G_12_31 hG, G_12_37 hG, G_12_38 hG, G_12_39 hG, G_12_40 hG, G_12_41 hG, G_12_43 hG, G_12_46 hG, G_12_47 hG, G_12_48 hG, G_25 hG, G_26 hG, G_47 hG, G_58 hG, n32_add, n32_mul, n32_lt, n32_le, n32_eq, n32_clamp, n32_inT, n32_div, n32_rem, n32_m1, n32_m1', n32_m1lt, n32_ltm1, n32_10, n32_01, Nat.not_lt_zero, Nat.lt_irrefl, Nat.mul_zero, Nat.zero_mul, Nat.zero_add, Nat.add_zero, Nat.reduceEqDiff, Nat.one_ne_zero, Nat.zero_ne_one, ax_psh_none, ax_psh_some, true_and, and_true, and_false, false_and, not_true_eq_false, not_false_eq_true, true_imp_iff, false_imp_iff, imp_self, or_true, true_or, or_false, false_or, and_self, ite_true, ite_false, if_true, if_false]
      exact fin _
    · simp (disch := omega) only [b_M_row_53, c_M_areaOf _ _ _ _ hG (by omega : t < 6) w0 w1, z, G_0_0 hG, G_0_1 hG, G_0_2 hG, G_0_3 hG, G_0_7 hG, G_0_10 hG, G_0_12 hG, G_0_13 hG, G_0_14 hG, G_0_15 hG, G_0_16 hG, G_0_17 hG, G_1_0 hG, G_1_2 hG, G_1_5 hG, G_2_4 hG, G_2_5 hG, G_3_5 hG, G_3_6 hG, G_3_7 hG, G_3_8 hG, G_3_9 hG, G_5_0 hG, G_5_1 hG, G_6_0 hG, G_6_1 hG, G_6_2 hG, G_6_9 hG, G_6_10 hG, G_6_11 hG, G_6_12 hG, G_6_13 hG, G_7_0 hG, G_7_5 hG, G_8_8 hG, G_8_9 hG, G_9_8 hG, G_9_9 hG, G_10_7 hG, G_10_8 hG, G_10_9 hG, G_10_10 hG, G_10_11 hG, G_11_0 hG, G_12_2 hG, G_12_3 hG, G_12_4 hG, G_12_5 hG, G_12_7 hG, G_12_8 hG, G_12_9 hG, G_12_12 hG, G_12_13 hG, G_12_14 hG, G_12_22 hG, G_12_23 hG, G_12_29 hG, G_12_30 hG, G_12_31 hG, G_12_37 hG, G_12_38 hG, G_12_39 hG, G_12_40 hG, G_12_41 hG, G_12_43 hG, G_12_46 hG, G_12_47 hG, G_12_48 hG, G_25 hG, G_26 hG, G_47 hG, G_58 hG, n32_add, n32_mul, n32_lt, n32_le, n32_eq, n32_clamp, n32_inT, n32_div, n32_rem, n32_m1, n32_m1', n32_m1lt, n32_ltm1, n32_10, n32_01, Nat.not_lt_zero, Nat.lt_irrefl, Nat.mul_zero, Nat.zero_mul, Nat.zero_add, Nat.add_zero, Nat.reduceEqDiff, Nat.one_ne_zero, Nat.zero_ne_one, ax_psh_none, ax_psh_some, true_and, and_true, and_false, false_and, not_true_eq_false, not_false_eq_true, true_imp_iff, false_imp_iff, imp_self, or_true, true_or, or_false, false_or, and_self, ite_true, ite_false, if_true, if_false]
      exact fin _
theorem rowN_le (B : Nat → Nat) (i : Nat) : rowN B i ≤ i := sumN_le1 (fun c => by split <;> omega) i
theorem op_row : Op m_S_row m_M_row [] := by
  intro D n gi g Ls Q hD hn hC hQ
  obtain ⟨d, rfl⟩ : ∃ d2, D = d2 + 4 := ⟨D - 4, by omega⟩
  have hG := hC.1.1
  obtain ⟨nt, m, hN, hTh, hLw⟩ := hC.2.1
  have hN0 := hN
  obtain ⟨n6, m6, k796, k797, b1, b3, b4, hfo, hte, hte2⟩ := hN
  obtain ⟨len, v, dd, B, hv, hM⟩ := hC.2.2.2.2.2
  have hM0 := hM
  obtain ⟨⟨a1, a2, a3⟩, ⟨m1, m2, m3⟩, hM3, ⟨e1, e2⟩, ⟨d1, d2, d3, d4⟩, t1, t2⟩ := hM
  have c0 : (n32 0).toNatClampNeg = 0 := by decide
  -- refused
  have refd : Q (some (.inl (-6))) (some (.inl (-6))) (refM (ax_wI (refC (ax_wI gi 0 0 4 (n32 0)) (-6) 4) 12 0 10 (n32 0)) (-6) 6, g) := by
    rw [refC_wI (by decide) (by decide)]
    have fo : ∀ s a j, ¬ (s = 0 ∧ a = 0 ∧ j = 4) → ¬ (s = 12 ∧ a = 0 ∧ j = 10) → ax_wI (ax_wI gi 0 0 4 (n32 0)) 12 0 10 (n32 0) s a j = gi s a j := fun s a j q1 q2 => by
      rw [wI_at, if_neg q2, wI_at, if_neg q1]
    have x4 : ax_wI (ax_wI gi 0 0 4 (n32 0)) 12 0 10 (n32 0) 0 0 4 = n32 0 := by rw [wI_ne (by decide), wI_self]
    have x10 : ax_wI (ax_wI gi 0 0 4 (n32 0)) 12 0 10 (n32 0) 12 0 10 = n32 0 := by rw [wI_self]
    generalize ax_wI (ax_wI gi 0 0 4 (n32 0)) 12 0 10 (n32 0) = gi1 at *
    refine ref_end hC hQ (gi1 := gi1) (fun s a j q1 q2 q3 _ _ _ _ _ _ _ _ _ => fo s a j (by omega) (by omega)) (fun s a j q => fo s a j (by omega) (by omega)) (fo 0 0 9 (by omega) (by omega)) (fo 12 0 1 (by omega) (by omega)) ⟨0, v, dd, B, by omega, ⟨by omega, x4, x10⟩, ⟨?_, ?_, ?_⟩, ⟨?_, ?_, ?_, ?_, ?_⟩, ⟨?_, ?_⟩, ⟨d1, ?_, ?_, fun i hi => ?_⟩, fun i hi => ?_, fun i hi => ?_⟩ (by omega)
    · rw [fo 0 0 5 (by omega) (by omega), fo 12 0 11 (by omega) (by omega), m1]
    · rw [fo 0 0 6 (by omega) (by omega), fo 12 0 6 (by omega) (by omega), m2]
    · rw [fo 0 0 8 (by omega) (by omega), fo 12 0 0 (by omega) (by omega), m3]
    · rw [fo 23 0 _ (by omega) (by omega), fo 63 0 _ (by omega) (by omega), hM3.1]
    · rw [fo 23 0 _ (by omega) (by omega), fo 63 0 _ (by omega) (by omega), hM3.2.1]
    · rw [fo 23 0 _ (by omega) (by omega), fo 63 0 _ (by omega) (by omega), hM3.2.2.1]
    · rw [fo 23 0 _ (by omega) (by omega), fo 63 0 _ (by omega) (by omega), hM3.2.2.2.1]
    · rw [fo 23 0 _ (by omega) (by omega), fo 63 0 _ (by omega) (by omega), hM3.2.2.2.2]
    · rw [fo 0 0 9 (by omega) (by omega), e1]
    · rw [fo 12 0 1 (by omega) (by omega), e2]
    · rw [fo 0 0 11 (by omega) (by omega), d2]
    · rw [fo 12 0 49 (by omega) (by omega), d3]
    · rw [fo 24 0 i (by omega) (by omega), fo 85 0 i (by omega) (by omega), d4 i hi]
    · rw [fo 22 0 i (by omega) (by omega)]
      exact t1 i hi
    · rw [fo 68 0 i (by omega) (by omega)]
      exact t2 i hi
  by_cases hl0 : len = 0
  · subst hl0
    have e10 : refC (ax_wI gi 0 0 4 (n32 0)) (-6) 4 12 0 10 = n32 0 := by rw [refC_ne (by decide) (by decide), wI_ne (by decide), a3]
    simp (disch := omega) only [e_S_row, b_S_row_0, b_S_row_30, b_S_row_31a, b_S_row_36, b_S_row_42, a2, c_S_refuse4 _ _ _ _ hG, G_0_0 hG, G_0_1 hG, G_0_2 hG, G_0_3 hG, G_0_7 hG, G_0_10 hG, G_0_12 hG, G_0_13 hG, G_0_14 hG, G_0_15 hG, G_0_16 hG, G_0_17 hG, G_1_0 hG, G_1_2 hG, G_1_5 hG, G_2_4 hG, G_2_5 hG, G_3_5 hG, G_3_6 hG, G_3_7 hG, G_3_8 hG, G_3_9 hG, G_5_0 hG, G_5_1 hG, G_6_0 hG, G_6_1 hG, G_6_2 hG, G_6_9 hG, G_6_10 hG, G_6_11 hG, G_6_12 hG, G_6_13 hG, G_7_0 hG, G_7_5 hG, G_8_8 hG, G_8_9 hG, G_9_8 hG, G_9_9 hG, G_10_7 hG, G_10_8 hG, G_10_9 hG, G_10_10 hG, G_10_11 hG, G_11_0 hG, G_12_2 hG, G_12_3 hG, G_12_4 hG, G_12_5 hG, G_12_7 hG, G_12_8 hG, G_12_9 hG, G_12_12 hG, G_12_13 hG, G_12_14 hG, G_12_22 hG, G_12_23 hG, G_12_29 hG, G_12_30 hG, G_12_31 hG, G_12_37 hG, G_12_38 hG, G_12_39 hG, G_12_40 hG, G_12_41 hG, G_12_43 hG, G_12_46 hG, G_12_47 hG, G_12_48 hG, G_25 hG, G_26 hG, G_47 hG, G_58 hG, n32_add, n32_mul, n32_lt, n32_le, n32_eq, n32_clamp, n32_inT, n32_div, n32_rem, n32_m1, n32_m1', n32_m1lt, n32_ltm1, n32_10, n32_01, Nat.not_lt_zero, Nat.lt_irrefl, Nat.mul_zero, Nat.zero_mul, Nat.zero_add, Nat.add_zero, Nat.reduceEqDiff, Nat.one_ne_zero, Nat.zero_ne_one, ax_psh_none, ax_psh_some, true_and, and_true, and_false, false_and, not_true_eq_false, not_false_eq_true, true_imp_iff, false_imp_iff, imp_self, or_true, true_or, or_false, false_or, and_self, ite_true, ite_false, if_true, if_false]
    simp (disch := omega) only [e_M_row, b_M_row_0, b_M_row_27, b_M_row_33, e10, c_M_refuses4 _ _ _ _ hG, G_0_0 hG, G_0_1 hG, G_0_2 hG, G_0_3 hG, G_0_7 hG, G_0_10 hG, G_0_12 hG, G_0_13 hG, G_0_14 hG, G_0_15 hG, G_0_16 hG, G_0_17 hG, G_1_0 hG, G_1_2 hG, G_1_5 hG, G_2_4 hG, G_2_5 hG, G_3_5 hG, G_3_6 hG, G_3_7 hG, G_3_8 hG, G_3_9 hG, G_5_0 hG, G_5_1 hG, G_6_0 hG, G_6_1 hG, G_6_2 hG, G_6_9 hG, G_6_10 hG, G_6_11 hG, G_6_12 hG, G_6_13 hG, G_7_0 hG, G_7_5 hG, G_8_8 hG, G_8_9 hG, G_9_8 hG, G_9_9 hG, G_10_7 hG, G_10_8 hG, G_10_9 hG, G_10_10 hG, G_10_11 hG, G_11_0 hG, G_12_2 hG, G_12_3 hG, G_12_4 hG, G_12_5 hG, G_12_7 hG, G_12_8 hG, G_12_9 hG, G_12_12 hG, G_12_13 hG, G_12_14 hG, G_12_22 hG, G_12_23 hG, G_12_29 hG, G_12_30 hG, G_12_31 hG, G_12_37 hG, G_12_38 hG, G_12_39 hG, G_12_40 hG, G_12_41 hG, G_12_43 hG, G_12_46 hG, G_12_47 hG, G_12_48 hG, G_25 hG, G_26 hG, G_47 hG, G_58 hG, n32_add, n32_mul, n32_lt, n32_le, n32_eq, n32_clamp, n32_inT, n32_div, n32_rem, n32_m1, n32_m1', n32_m1lt, n32_ltm1, n32_10, n32_01, Nat.not_lt_zero, Nat.lt_irrefl, Nat.mul_zero, Nat.zero_mul, Nat.zero_add, Nat.add_zero, Nat.reduceEqDiff, Nat.one_ne_zero, Nat.zero_ne_one, ax_psh_none, ax_psh_some, true_and, and_true, and_false, false_and, not_true_eq_false, not_false_eq_true, true_imp_iff, false_imp_iff, imp_self, or_true, true_or, or_false, false_or, and_self, ite_true, ite_false, if_true, if_false]
    exact refd
  · have hpos : 0 < len := by omega
    rcases SB_thing (t2 0 (by omega)) n6 with ⟨ht, e68⟩ | ⟨ht, hw⟩
    · obtain ⟨W, T, O, b, h, pl, hv'⟩ := thing_v hTh ht
      obtain ⟨hok, hsm⟩ := ThOK_v hv'
      obtain ⟨hc, hm, hO, hpl, hpl2, hh, hs⟩ := hv'
      refine c_S_row hG b1 n6 ht rfl hc a2 ⟨by omega, a1⟩ t1 ?_
      intro gi1 f1 f4 f6 f29
      have e64 : ∀ j, donC gi1 64 0 j = gi 64 0 j := fun j => (donC_ne (by decide) 0 j).trans (f1 64 0 j (by omega) (by omega))
      have e68' : ∀ j, donC gi1 68 0 j = gi 68 0 j := fun j => (donC_ne (by decide) 0 j).trans (f1 68 0 j (by omega) (by omega))
      have e10 : donC gi1 12 0 10 = n32 len := (donC_ne (by decide) 0 10).trans ((f1 12 0 10 (by omega) (by omega)).trans a3)
      refine c_M_row (B := B) hG ((e64 796).trans k796) n6 ht ((e68' 0).trans e68) (ThM_fr hm e64) e10 ⟨by omega, a1⟩ (fun i hi => by rw [e68' i]; exact t2 i hi) ?_
      intro gi2 k1 k10 k6 k64
      generalize htt : B 0 = t at *
      generalize rowG W T len = G at *
      -- what is read at the end
      have o : ∀ s a j, s ≠ 0 → s ≠ 12 → ¬ (s = 29 ∧ a = t) → ¬ (s = 64 ∧ a = 0 ∧ 132 * t + 4 ≤ j ∧ j < 132 * t + 68) → donM gi2 s a j = gi s a j := fun s a j q0 q1 q2 q3 => by
        rw [donM_ne q1, k1 s a j (by omega) q3, donC_ne q0]
        exact f1 s a j (by omega) q2
      have o0 : ∀ j, j ≠ 4 → j ≠ 6 → j ≠ 8 → j ≠ 9 → donM gi2 0 0 j = gi 0 0 j := fun j q1 q2 q3 q4 => by
        rw [donM_ne (by decide), k1 0 0 j (by omega) (by omega), donC_at, if_neg (by omega), if_neg (by omega)]
        exact f1 0 0 j (by omega) (by omega)
      have o12 : ∀ j, j ≠ 10 → j ≠ 6 → j ≠ 0 → j ≠ 1 → donM gi2 12 0 j = gi 12 0 j := fun j q1 q2 q3 q4 => by
        rw [donM_at, if_neg (by omega), if_neg (by omega), k1 12 0 j (by omega) (by omega), donC_ne (by decide)]
        exact f1 12 0 j (by omega) (by omega)
      have x4 : donM gi2 0 0 4 = n32 0 := by
        rw [donM_ne (by decide), k1 0 0 4 (by omega) (by omega), donC_at, if_neg (by omega), if_neg (by omega), f4]
      have x6 : donM gi2 0 0 6 = n32 (len - 1 - G) := by
        rw [donM_ne (by decide), k1 0 0 6 (by omega) (by omega), donC_at, if_neg (by omega), if_neg (by omega), f6]
      have x8 : donM gi2 0 0 8 = n32 0 := by
        rw [donM_ne (by decide), k1 0 0 8 (by omega) (by omega), donC_at, if_neg (by omega), if_pos ⟨rfl, rfl, rfl⟩]
      have x9 : donM gi2 0 0 9 = gi 0 0 9 + n32 1 := by
        rw [donM_ne (by decide), k1 0 0 9 (by omega) (by omega), donC_at, if_pos ⟨rfl, rfl, rfl⟩, f1 0 0 9 (by omega) (by omega)]
      have y10 : donM gi2 12 0 10 = n32 0 := by
        rw [donM_at, if_neg (by omega), if_neg (by omega), k10]
      have y6 : donM gi2 12 0 6 = n32 (len - 1 - G) := by
        rw [donM_at, if_neg (by omega), if_neg (by omega), k6]
      have y0 : donM gi2 12 0 0 = n32 0 := by
        rw [donM_at, if_neg (by omega), if_pos ⟨rfl, rfl, rfl⟩]
      have y1 : donM gi2 12 0 1 = gi 12 0 1 + n32 1 := by
        rw [donM_at, if_pos ⟨rfl, rfl, rfl⟩, k1 12 0 1 (by omega) (by omega), donC_ne (by decide), f1 12 0 1 (by omega) (by omega)]
      have o12a : ∀ a j, ¬ (a = 0 ∧ (j < 28 ∨ 42 ≤ j)) → donM gi2 12 a j = gi 12 a j := fun a j q => by
        rw [donM_at, if_neg (by omega), if_neg (by omega), k1 12 a j (by omega) (by omega), donC_ne (by decide)]
        exact f1 12 a j (by omega) (by omega)
      have o0a : ∀ a j, ¬ (a = 0 ∧ 4 ≤ j) → donM gi2 0 a j = gi 0 a j := fun a j q => by
        rw [donM_ne (by decide), k1 0 a j (by omega) (by omega), donC_at, if_neg (by omega), if_neg (by omega)]
        exact f1 0 a j (by omega) (by omega)
      have r29 : ∀ c, c < 64 → donM gi2 29 t c = n32 (rowB B b G c) := fun c hc' => by
        rw [donM_ne (by decide), k1 29 t c (by omega) (by omega), donC_ne (by decide)]
        exact f29 c hc'
      have r64 : ∀ c, c < 64 → donM gi2 64 0 (132 * t + (4 + c)) = n32 (rowB B b G c) := fun c hc' => by
        rw [donM_ne (by decide)]
        exact k64 c hc'
      have rlt : ∀ c, c < 64 → rowB B b G c < 10 := fun c hc' => by
        unfold rowB
        split
        · rename_i q
          exact q.2
        · exact (hc.2.2.2.2.2 c hc').2
      generalize donM gi2 = gi3 at *
      have hf : FrB gi gi3 := fun s a j q1 q2 q3 q4 q5 q6 q7 q8 q9 q10 q11 q12 => by
        by_cases z0 : s = 0
        · subst z0
          exact o0a a j (by omega)
        · by_cases z12 : s = 12
          · subst z12
            exact o12a a j (by omega)
          · exact o s a j z0 z12 (by omega) (by omega)
      refine hQ _ gi3 g Ls (Core_B hC hf ?_ ⟨0, v + 1, dd, B, by omega, ⟨by omega, x4, y10⟩, ⟨?_, ?_, ?_⟩, ⟨?_, ?_, ?_, ?_, ?_⟩, ⟨?_, ?_⟩, ⟨d1, ?_, ?_, fun i hi => ?_⟩, fun i hi => ?_, fun i hi => ?_⟩) ⟨FrB_Sr hf, Or.inr x9⟩ (Or.inl x9)
      · refine Books_thing (t := t) (W := W) (T := T) (O := O) (b := rowB B b G) (h := h) hG hN0 hTh hLw (fun j q1 q2 => o 64 0 j (by decide) (by decide) (by omega) (by omega)) ht (fun s a j q => o s a j (by omega) (by omega) (by omega) (by omega)) ?_ ?_
        · obtain ⟨p1, p2, p3, p4, p5, p6, p7, p8, p9⟩ := hok
          refine ⟨(o 64 0 _ (by decide) (by decide) (by omega) (by omega)).trans p1, (o 64 0 _ (by decide) (by decide) (by omega) (by omega)).trans p2, (o 64 0 _ (by decide) (by decide) (by omega) (by omega)).trans p3, p4, p5, p6, by rw [o 64 0 _ (by decide) (by decide) (by omega) (by omega)]; exact p7, fun c hc' => ⟨⟨r64 c hc', rlt c hc'⟩, ?_⟩, p9⟩
          rw [o 64 0 _ (by decide) (by decide) (by omega) (by omega)]
          exact (p8 c hc').2
        · refine ⟨fun i hi => ?_, fun c hc' => ⟨?_, ?_⟩⟩
          · rw [o 2 t i (by decide) (by decide) (by omega) (by omega), o 64 0 _ (by decide) (by decide) (by omega) (by omega)]
            exact hsm.1 i hi
          · rw [r29 c hc', r64 c hc']
          · rw [o 30 t c (by decide) (by decide) (by omega) (by omega), o 64 0 _ (by decide) (by decide) (by omega) (by omega)]
            exact (hsm.2 c hc').2
      · rw [o0 5 (by decide) (by decide) (by decide) (by decide), o12 11 (by decide) (by decide) (by decide) (by decide), m1]
      · rw [x6, y6]
      · rw [x8, y0]
      · rw [o 23 0 _ (by decide) (by decide) (by omega) (by omega), o 63 0 _ (by decide) (by decide) (by omega) (by omega), hM3.1]
      · rw [o 23 0 _ (by decide) (by decide) (by omega) (by omega), o 63 0 _ (by decide) (by decide) (by omega) (by omega), hM3.2.1]
      · rw [o 23 0 _ (by decide) (by decide) (by omega) (by omega), o 63 0 _ (by decide) (by decide) (by omega) (by omega), hM3.2.2.1]
      · rw [o 23 0 _ (by decide) (by decide) (by omega) (by omega), o 63 0 _ (by decide) (by decide) (by omega) (by omega), hM3.2.2.2.1]
      · rw [o 23 0 _ (by decide) (by decide) (by omega) (by omega), o 63 0 _ (by decide) (by decide) (by omega) (by omega), hM3.2.2.2.2]
      · rw [x9, e1, n32_add]
      · rw [y1, e2, n32_add]
      · rw [o0 11 (by decide) (by decide) (by decide) (by decide), d2]
      · rw [o12 49 (by decide) (by decide) (by decide) (by decide), d3]
      · rw [o 24 0 i (by decide) (by decide) (by omega) (by omega), o 85 0 i (by decide) (by decide) (by omega) (by omega), d4 i hi]
      · rw [o 22 0 i (by decide) (by decide) (by omega) (by omega)]
        exact t1 i hi
      · rw [o 68 0 i (by decide) (by decide) (by omega) (by omega)]
        exact t2 i hi
    · have hwc : win (n32 (B 0)) (n32 0) (n32 nt - n32 1) = n32 0 := by
        rcases win_cases (n32 (B 0)) nt (by omega) with ⟨k, hk, ek⟩ | h
        · have := (t1 0 (by omega)).2
          rw [n32_eq (by omega) (by omega)] at ek
          omega
        · exact h
      have e22 : ∀ v, ax_wI gi 0 0 4 v 22 0 0 = n32 (B 0) := fun v => by rw [wI_ne (by decide), (t1 0 (by omega)).1]
      have e1b : ∀ v, ax_wI gi 0 0 4 v 1 0 1 = n32 nt := fun v => by rw [wI_ne (by decide), b1]
      have e10 : refC (ax_wI gi 0 0 4 (n32 0)) (-6) 4 12 0 10 = n32 len := by rw [refC_ne (by decide) (by decide), wI_ne (by decide), a3]
      have e796 : ax_wI (refC (ax_wI gi 0 0 4 (n32 0)) (-6) 4) 12 0 10 (n32 0) 64 0 796 = n32 nt := by rw [wI_ne (by decide), refC_ne (by decide) (by decide), wI_ne (by decide), k796]
      have e68 : ax_wI (refC (ax_wI gi 0 0 4 (n32 0)) (-6) 4) 12 0 10 (n32 0) 68 0 0 = gi 68 0 0 := by rw [wI_ne (by decide), refC_ne (by decide) (by decide), wI_ne (by decide)]
      simp (disch := omega) only [e_S_row, b_S_row_0, b_S_row_14, b_S_row_27a, b_S_row_31a, b_S_row_36, b_S_row_42, a2, hpos, c0, e22, c_Books_thingAt_n _ _ _ _ hG (e1b _) hwc, c_S_refuse4 _ _ _ _ hG, G_0_0 hG, G_0_1 hG, G_0_2 hG, G_0_3 hG, G_0_7 hG, G_0_10 hG, G_0_12 hG, G_0_13 hG, G_0_14 hG, G_0_15 hG, G_0_16 hG, G_0_17 hG, G_1_0 hG, G_1_2 hG, G_1_5 hG, G_2_4 hG, G_2_5 hG, G_3_5 hG, G_3_6 hG, G_3_7 hG, G_3_8 hG, G_3_9 hG, G_5_0 hG, G_5_1 hG, G_6_0 hG, G_6_1 hG, G_6_2 hG, G_6_9 hG, G_6_10 hG, G_6_11 hG, G_6_12 hG, G_6_13 hG, G_7_0 hG, G_7_5 hG, G_8_8 hG, G_8_9 hG, G_9_8 hG, G_9_9 hG, G_10_7 hG, G_10_8 hG, G_10_9 hG, G_10_10 hG, G_10_11 hG, G_11_0 hG, G_12_2 hG, G_12_3 hG, G_12_4 hG, G_12_5 hG, G_12_7 hG, G_12_8 hG, G_12_9 hG, G_12_12 hG, G_12_13 hG, G_12_14 hG, G_12_22 hG, G_12_23 hG, G_12_29 hG, G_12_30 hG, G_12_31 hG, G_12_37 hG, G_12_38 hG, G_12_39 hG, G_12_40 hG, G_12_41 hG, G_12_43 hG, G_12_46 hG, G_12_47 hG, G_12_48 hG, G_25 hG, G_26 hG, G_47 hG, G_58 hG, n32_add, n32_mul, n32_lt, n32_le, n32_eq, n32_clamp, n32_inT, n32_div, n32_rem, n32_m1, n32_m1', n32_m1lt, n32_ltm1, n32_10, n32_01, Nat.not_lt_zero, Nat.lt_irrefl, Nat.mul_zero, Nat.zero_mul, Nat.zero_add, Nat.add_zero, Nat.reduceEqDiff, Nat.one_ne_zero, Nat.zero_ne_one, ax_psh_none, ax_psh_some, true_and, and_true, and_false, false_and, not_true_eq_false, not_false_eq_true, true_imp_iff, false_imp_iff, imp_self, or_true, true_or, or_false, false_or, and_self, ite_true, ite_false, if_true, if_false]
      simp (disch := omega) only [e_M_row, b_M_row_0, b_M_row_14, b_M_row_24, b_M_row_27, b_M_row_33, e10, hl0, c0, e68, c_M_isThing _ _ _ _ hG, e796, hw, c_M_refuses4 _ _ _ _ hG, G_0_0 hG, G_0_1 hG, G_0_2 hG, G_0_3 hG, G_0_7 hG, G_0_10 hG, G_0_12 hG, G_0_13 hG, G_0_14 hG, G_0_15 hG, G_0_16 hG, G_0_17 hG, G_1_0 hG, G_1_2 hG, G_1_5 hG, G_2_4 hG, G_2_5 hG, G_3_5 hG, G_3_6 hG, G_3_7 hG, G_3_8 hG, G_3_9 hG, G_5_0 hG, G_5_1 hG, G_6_0 hG, G_6_1 hG, G_6_2 hG, G_6_9 hG, G_6_10 hG, G_6_11 hG, G_6_12 hG, G_6_13 hG, G_7_0 hG, G_7_5 hG, G_8_8 hG, G_8_9 hG, G_9_8 hG, G_9_9 hG, G_10_7 hG, G_10_8 hG, G_10_9 hG, G_10_10 hG, G_10_11 hG, G_11_0 hG, G_12_2 hG, G_12_3 hG, G_12_4 hG, G_12_5 hG, G_12_7 hG, G_12_8 hG, G_12_9 hG, G_12_12 hG, G_12_13 hG, G_12_14 hG, G_12_22 hG, G_12_23 hG, G_12_29 hG, G_12_30 hG, G_12_31 hG, G_12_37 hG, G_12_38 hG, G_12_39 hG, G_12_40 hG, G_12_41 hG, G_12_43 hG, G_12_46 hG, G_12_47 hG, G_12_48 hG, G_25 hG, G_26 hG, G_47 hG, G_58 hG, n32_add, n32_mul, n32_lt, n32_le, n32_eq, n32_clamp, n32_inT, n32_div, n32_rem, n32_m1, n32_m1', n32_m1lt, n32_ltm1, n32_10, n32_01, Nat.not_lt_zero, Nat.lt_irrefl, Nat.mul_zero, Nat.zero_mul, Nat.zero_add, Nat.add_zero, Nat.reduceEqDiff, Nat.one_ne_zero, Nat.zero_ne_one, ax_psh_none, ax_psh_some, true_and, and_true, and_false, false_and, not_true_eq_false, not_false_eq_true, true_imp_iff, false_imp_iff, imp_self, or_true, true_or, or_false, false_or, and_self, ite_true, ite_false, if_true, if_false]
      exact refd
