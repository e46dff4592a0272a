/-! who stands where; the class surveys -/
def fp (K : Nat → Int32) (nt p : Nat) : Nat := fstN (fun t => decide (K (132 * t + 3) = n32 p)) nt 0
def plK (K : Nat → Int32) (nt : Nat) : Nat → List Nat
  | 0 => []
  | p + 1 => if fp K nt p < nt then plK K nt p ++ [p] else plK K nt p
def thK (K : Nat → Int32) (nt : Nat) : Nat → List Nat
  | 0 => []
  | p + 1 => if fp K nt p < nt then thK K nt p ++ [fp K nt p] else thK K nt p
theorem fp_at {K : Nat → Int32} {nt p : Nat} (h : fp K nt p < nt) : K (132 * fp K nt p + 3) = n32 p := by
  obtain ⟨-, -, a3, -⟩ := fstN_spec (fun t => decide (K (132 * t + 3) = n32 p)) nt 0
  exact of_decide_eq_true (a3 (by rw [Nat.zero_add]; exact h))
theorem sIn_fp (K : Nat → Int32) (nt p : Nat) : sIn K nt (n32 p) = if fp K nt p < nt then n32 (fp K nt p) else -1 := rfl
theorem pt_len (K : Nat → Int32) (nt : Nat) : ∀ p, (plK K nt p).length = (thK K nt p).length
  | 0 => rfl
  | p + 1 => by
    unfold plK thK
    split
    · rw [List.length_append, List.length_append, pt_len K nt p]
      rfl
    · exact pt_len K nt p
theorem thK_mem {K : Nat → Int32} {nt t : Nat} : ∀ {p : Nat}, t ∈ thK K nt p → t < nt ∧ ∃ q, q < p ∧ K (132 * t + 3) = n32 q
  | 0, h => by cases h
  | p + 1, h => by
    unfold thK at h
    split at h
    · rename_i z
      rcases List.mem_append.mp h with h | h
      · obtain ⟨h1, q, h2, h3⟩ := thK_mem h
        exact ⟨h1, q, by omega, h3⟩
      · rw [List.mem_singleton] at h
        rw [h]
        exact ⟨z, p, by omega, fp_at z⟩
    · obtain ⟨h1, q, h2, h3⟩ := thK_mem h
      exact ⟨h1, q, by omega, h3⟩
theorem thK_nodup {K : Nat → Int32} {nt : Nat} : ∀ {p : Nat}, p ≤ 10 → (thK K nt p).Nodup
  | 0, _ => List.nodup_nil
  | p + 1, hp => by
    unfold thK
    split
    · rename_i z
      refine List.nodup_append.mpr ⟨thK_nodup (by omega), by simp, ?_⟩
      intro a ha b hb
      rw [List.mem_singleton] at hb
      intro e
      obtain ⟨-, q, hq, h3⟩ := thK_mem ha
      rw [e, hb, fp_at z, n32_eq (by omega) (by omega)] at h3
      omega
    · exact thK_nodup (by omega)
theorem nodup_len : ∀ {l : List Nat} {n : Nat}, l.Nodup → (∀ x, x ∈ l → x < n) → l.length ≤ n := by
  have key : ∀ (l : List Nat) (n : Nat), l.Nodup → (∀ x, x ∈ l → x < n) → l.length = sumN (fun t => if t ∈ l then 1 else 0) n := by
    intro l
    induction l with
    | nil =>
      intro n _ _
      exact (sumN_zero.mpr (fun i _ => by simp)).symm
    | cons a l ih =>
      intro n hn hx
      have hn' := List.nodup_cons.mp hn
      have ha := hx a List.mem_cons_self
      have h1 := sumN_one (f := fun t => if t ∈ l then 1 else 0) (g := fun t => if t ∈ a :: l then 1 else 0) ha (fun k _ hk => by
        simp only [List.mem_cons]
        by_cases q : k ∈ l
        · rw [if_pos (Or.inr q), if_pos q]
        · rw [if_neg (by rintro (z | z); exact hk z; exact q z), if_neg q])
      have h2 := ih n hn'.2 (fun x hx' => hx x (List.mem_cons_of_mem _ hx'))
      simp only [if_neg hn'.1, if_pos (List.mem_cons_self)] at h1
      rw [List.length_cons]
      omega
  intro l n h1 h2
  rw [key l n h1 h2]
  exact sumN_le1 (fun i => by split <;> omega) n
theorem thK_len {K : Nat → Int32} {nt p : Nat} (hp : p ≤ 10) : (thK K nt p).length ≤ nt := nodup_len (thK_nodup hp) (fun x hx => (thK_mem hx).1)
theorem plK_lt {K : Nat → Int32} {nt : Nat} : ∀ {p i : Nat}, i < (plK K nt p).length → (plK K nt p).getD i 0 < p
  | 0, i, h => absurd h (Nat.not_lt_zero i)
  | p + 1, i, h => by
    unfold plK at h ⊢
    split at h
    · rename_i z
      rw [if_pos z, getD_app]
      rw [List.length_append] at h
      have h : i < (plK K nt p).length + 1 := h
      by_cases q : i < (plK K nt p).length
      · rw [if_pos q]
        have := plK_lt q
        omega
      · rw [if_neg q, if_pos (by omega)]
        omega
    · rename_i z
      rw [if_neg z]
      have := plK_lt h
      omega
theorem plK_inc {K : Nat → Int32} {nt : Nat} : ∀ {p i j : Nat}, i < j → j < (plK K nt p).length → (plK K nt p).getD i 0 < (plK K nt p).getD j 0
  | 0, _, j, _, h => absurd h (Nat.not_lt_zero j)
  | p + 1, i, j, hij, h => by
    unfold plK at h ⊢
    split at h
    · rename_i z
      rw [if_pos z, getD_app, getD_app]
      rw [List.length_append] at h
      have h : j < (plK K nt p).length + 1 := h
      by_cases q : j < (plK K nt p).length
      · rw [if_pos q, if_pos (by omega)]
        exact plK_inc hij q
      · rw [if_pos (by omega), if_neg q, if_pos (by omega)]
        exact plK_lt (by omega)
    · rename_i z
      rw [if_neg z]
      exact plK_inc hij h
/-- rows that grow stay what they were -/
theorem grow {l l' : List Nat} {k : Nat} (h : l' = l ++ [k] ∨ l' = l) : l.length ≤ l'.length ∧ ∀ i, i < l.length → l'.getD i 0 = l.getD i 0 := by
  rcases h with h | h
  · rw [h]
    refine ⟨by rw [List.length_append]; omega, fun i hi => ?_⟩
    rw [getD_app, if_pos hi]
  · rw [h]
    exact ⟨Nat.le_refl _, fun _ _ => rfl⟩
theorem thK_step (K : Nat → Int32) (nt p : Nat) : (fp K nt p < nt ∧ thK K nt (p + 1) = thK K nt p ++ [fp K nt p] ∧ plK K nt (p + 1) = plK K nt p ++ [p]) ∨ (¬ fp K nt p < nt ∧ thK K nt (p + 1) = thK K nt p ∧ plK K nt (p + 1) = plK K nt p) := by
  by_cases z : fp K nt p < nt
  · left
    refine ⟨z, ?_, ?_⟩
    · show (if fp K nt p < nt then _ else _) = _
      rw [if_pos z]
    · show (if fp K nt p < nt then _ else _) = _
      rw [if_pos z]
  · right
    refine ⟨z, ?_, ?_⟩
    · show (if fp K nt p < nt then _ else _) = _
      rw [if_neg z]
    · show (if fp K nt p < nt then _ else _) = _
      rw [if_neg z]
theorem thK_full {K : Nat → Int32} {nt p : Nat} (n6 : nt ≤ 6) (hp : p ≤ 10) (h : (thK K nt p).length = 6) : thK K nt 10 = thK K nt p ∧ plK K nt 10 = plK K nt p := by
  obtain ⟨k, hk⟩ : ∃ k, 10 = p + k := ⟨10 - p, by omega⟩
  rw [hk]
  have : ∀ k, p + k ≤ 10 → thK K nt (p + k) = thK K nt p ∧ plK K nt (p + k) = plK K nt p := by
    intro k
    induction k with
    | zero => exact fun _ => ⟨rfl, rfl⟩
    | succ k ih =>
      intro hk
      obtain ⟨i1, i2⟩ := ih (by omega)
      have hl := thK_len (K := K) (nt := nt) (p := p + (k + 1)) hk
      rcases thK_step K nt (p + k) with ⟨z, e1, e2⟩ | ⟨z, e1, e2⟩
      · rw [show p + (k + 1) = p + k + 1 by omega, e1, List.length_append, i1, h] at hl
        have hl : 6 + 1 ≤ nt := hl
        omega
      · rw [show p + (k + 1) = p + k + 1 by omega, e1, e2]
        exact ⟨i1, i2⟩
  exact this k (by omega)
def twK (K : Nat → Int32) (a b : Nat) : Nat := if asB (Wk K a) (Tk K a) (bk K a) (Wk K b) (Tk K b) (bk K b) 0 = true then 1 else 0
theorem twK_le (K : Nat → Int32) (a b : Nat) : twK K a b ≤ 1 := by
  unfold twK
  split <;> omega
theorem asB_sym {W T W' T' : Nat} {b b' : Nat → Nat} (hW : W ≤ 8) (hT : T ≤ 8) (h : asB W T b W' T' b' 0 = true) : asB W' T' b' W T b 0 = true := by
  unfold asB at h
  rw [Bool.and_eq_true, Bool.and_eq_true] at h
  obtain ⟨⟨h1, h2⟩, h3⟩ := h
  have e1 := of_decide_eq_true h1
  have e2 := of_decide_eq_true h2
  subst e1
  subst e2
  unfold asB
  rw [decide_eq_true rfl, decide_eq_true rfl, Bool.true_and, Bool.true_and]
  refine allN_true (fun c hc => decide_eq_true ?_)
  have hF : isF W T 0 = true := rfl
  have hl := tk_lt hW hT (show 0 < 8 by omega) hF hc
  have := of_decide_eq_true (allN_at h3 (tk W T 0 c) hl)
  rw [this, tk_inv hW hT (by omega) hF hc]
theorem twK_sym {gi : GI} {g : AG} {Ls : Nat → List PC} {nt m a b : Nat} {K : Nat → Int32} (hB : BK gi g Ls nt m K) (ha : a < nt) (hb : b < nt) : twK K a b = twK K b a := by
  have va := thing_b hB ha
  have vb := thing_b hB hb
  unfold twK
  by_cases z : asB (Wk K a) (Tk K a) (bk K a) (Wk K b) (Tk K b) (bk K b) 0 = true
  · rw [if_pos z, if_pos (asB_sym va.1.2.2.2.1.2 va.1.2.2.2.2.1.2 z)]
  · rw [if_neg z, if_neg (fun q => z (asB_sym vb.1.2.2.2.1.2 vb.1.2.2.2.2.1.2 q))]
theorem pbF_le {tw : Nat → Nat → Nat} {ne : Nat} {pl r : FF} {k : Nat} (h : ∀ a b, tw a b ≤ 1) : pbF tw ne pl r k ≤ k := sumN_le1 (fun i => by
  split
  · exact h _ _
  · omega) k
theorem pcF_le {tw : Nat → Nat → Nat} {ne : Nat} {pl r : FF} {n : Nat} (h : ∀ a b, tw a b ≤ 1) (hn : n ≤ 6) : pcF tw ne pl r n ≤ n * 6 := sumN_le (fun i hi => Nat.le_trans (pbF_le h) (by omega))
/-! the class: pairs ahead of a seat -/
theorem c_pairsBefore {d nt ne k : Nat} {tw : Nat → Nat → Nat} {pl r : FF} {gi : GI} {g : AG} {Q : Option AV → AH → Prop} (hG : GOK g) (n6 : nt ≤ 6) (hk : k < 6) (hne : ne ≤ 9) (h5 : gi 10 0 5 = n32 ne) (h49 : ∀ i, i ≤ k → gi 49 0 i = n32 (pl i) ∧ pl i < 10) (hinc : ∀ i, i < k → pl i < pl k) (h50 : ∀ i, i ≤ k → gi 50 0 i = n32 (r i) ∧ r i < nt) (h48 : ∀ a b, a < nt → b < nt → gi 48 a b = n32 (tw a b)) : ax_call (d + 1) m_Street_pairsBefore [.inr (.inr (some (10, 0))), .inl (n32 k)] (gi, g) Q = Q (some (.inl (n32 (pbF tw ne pl r k)))) (gi, g) := by
  have key := loop_up (n := k) (P := fun i => Runs d (m_Street_pairsBefore, 4, [some (.inr (.inr (some (10, 0)))), some (.inl (n32 k)), some (.inl (n32 (sumN (fun s => if pl k - pl s ≤ ne then tw (r s) (r k) else 0) i))), some (.inl (n32 i))], []) (gi, g) Q = Q (some (.inl (n32 (pbF tw ne pl r k)))) (gi, g)) ?_ ?_
  · rw [e_Street_pairsBefore, b_Street_pairsBefore_0]
    exact key 0 (Nat.zero_le _)
  · intro i hi ih
    have p1 := h49 i (by omega)
    have p2 := h49 k (Nat.le_refl _)
    have r1 := h50 i (by omega)
    have r2 := h50 k (Nat.le_refl _)
    have hi2 := hinc i hi
    have sb : n32 (pl k) - n32 (pl i) = n32 (pl k - pl i) := n32_sub (by omega)
    have e48 := h48 (r i) (r k) r1.2 r2.2
    rw [b_Street_pairsBefore_4]
    by_cases z : ne < pl k - pl i
    · simp (disch := omega) only [b_Street_pairsBefore_9, b_Street_pairsBefore_50, hi, p1.1, p2.1, sb, h5, z, G_0_0 hG, G_0_1 hG, G_0_2 hG, G_0_3 hG, G_0_7 hG, G_0_10 hG, G_0_12 hG, G_0_13 hG, G_0_14 hG, G_0_15 hG, G_0_16 hG, G_0_17 hG, G_1_0 hG, G_1_2 hG, G_1_5 hG, G_2_4 hG, G_2_5 hG, G_3_5 hG, G_3_6 hG, G_3_7 hG, G_3_8 hG, G_3_9 hG, G_5_0 hG, G_5_1 hG, G_6_0 hG, G_6_1 hG, G_6_2 hG, G_6_9 hG, G_6_10 hG, G_6_11 hG, G_6_12 hG, G_6_13 hG, G_7_0 hG, G_7_5 hG, G_8_8 hG, G_8_9 hG, G_9_8 hG, G_9_9 hG, G_10_7 hG, G_10_8 hG, G_10_9 hG, G_10_10 hG, G_10_11 hG, G_11_0 hG, G_12_2 hG, G_12_3 hG, G_12_4 hG, G_12_5 hG, G_12_7 hG, G_12_8 hG, G_12_9 hG, G_12_12 hG, G_12_13 hG, G_12_14 hG, G_12_22 hG, G_12_23 hG, G_12_29 hG, G_12_30 hG, G_12_31 hG, G_12_37 hG, G_12_38 hG, G_12_39 hG, G_12_40 hG, G_12_41 hG, G_12_43 hG, G_12_46 hG, G_12_47 hG, G_12_48 hG, G_25 hG, G_26 hG, G_47 hG, G_58 hG, n32_add, n32_mul, n32_lt, n32_le, n32_eq, n32_clamp, n32_inT, n32_div, n32_rem, n32_m1, n32_m1', n32_m1lt, n32_ltm1, n32_10, n32_01, Nat.not_lt_zero, Nat.lt_irrefl, Nat.mul_zero, Nat.zero_mul, Nat.zero_add, Nat.add_zero, Nat.reduceEqDiff, Nat.one_ne_zero, Nat.zero_ne_one, ax_psh_none, ax_psh_some, true_and, and_true, and_false, false_and, not_true_eq_false, not_false_eq_true, true_imp_iff, false_imp_iff, imp_self, or_true, true_or, or_false, false_or, and_self, ite_true, ite_false, if_true, if_false]
      rw [sumN_succ, if_neg (by omega), Nat.add_zero] at ih
      exact ih
    · simp (disch := omega) only [b_Street_pairsBefore_9, b_Street_pairsBefore_29, b_Street_pairsBefore_50, hi, p1.1, p2.1, sb, h5, z, r1.1, r2.1, e48, G_0_0 hG, G_0_1 hG, G_0_2 hG, G_0_3 hG, G_0_7 hG, G_0_10 hG, G_0_12 hG, G_0_13 hG, G_0_14 hG, G_0_15 hG, G_0_16 hG, G_0_17 hG, G_1_0 hG, G_1_2 hG, G_1_5 hG, G_2_4 hG, G_2_5 hG, G_3_5 hG, G_3_6 hG, G_3_7 hG, G_3_8 hG, G_3_9 hG, G_5_0 hG, G_5_1 hG, G_6_0 hG, G_6_1 hG, G_6_2 hG, G_6_9 hG, G_6_10 hG, G_6_11 hG, G_6_12 hG, G_6_13 hG, G_7_0 hG, G_7_5 hG, G_8_8 hG, G_8_9 hG, G_9_8 hG, G_9_9 hG, G_10_7 hG, G_10_8 hG, G_10_9 hG, G_10_10 hG, G_10_11 hG, G_11_0 hG, G_12_2 hG, G_12_3 hG, G_12_4 hG, G_12_5 hG, G_12_7 hG, G_12_8 hG, G_12_9 hG, G_12_12 hG, G_12_13 hG, G_12_14 hG, G_12_22 hG, G_12_23 hG, G_12_29 hG, G_12_30 hG, G_12_31 hG, G_12_37 hG, G_12_38 hG, G_12_39 hG, G_12_40 hG, G_12_41 hG, G_12_43 hG, G_12_46 hG, G_12_47 hG, G_12_48 hG, G_25 hG, G_26 hG, G_47 hG, G_58 hG, n32_add, n32_mul, n32_lt, n32_le, n32_eq, n32_clamp, n32_inT, n32_div, n32_rem, n32_m1, n32_m1', n32_m1lt, n32_ltm1, n32_10, n32_01, Nat.not_lt_zero, Nat.lt_irrefl, Nat.mul_zero, Nat.zero_mul, Nat.zero_add, Nat.add_zero, Nat.reduceEqDiff, Nat.one_ne_zero, Nat.zero_ne_one, ax_psh_none, ax_psh_some, true_and, and_true, and_false, false_and, not_true_eq_false, not_false_eq_true, true_imp_iff, false_imp_iff, imp_self, or_true, true_or, or_false, false_or, and_self, ite_true, ite_false, if_true, if_false]
      rw [sumN_succ, if_pos (by omega)] at ih
      exact ih
  · rw [b_Street_pairsBefore_4]
    simp (disch := omega) only [b_Street_pairsBefore_56, n32_add, n32_mul, n32_lt, n32_le, n32_eq, n32_clamp, n32_inT, n32_div, n32_rem, n32_m1, n32_m1', n32_m1lt, n32_ltm1, n32_10, n32_01, Nat.not_lt_zero, Nat.lt_irrefl, Nat.mul_zero, Nat.zero_mul, Nat.zero_add, Nat.add_zero, Nat.reduceEqDiff, Nat.one_ne_zero, Nat.zero_ne_one, ax_psh_none, ax_psh_some, true_and, and_true, and_false, false_and, not_true_eq_false, not_false_eq_true, true_imp_iff, false_imp_iff, imp_self, or_true, true_or, or_false, false_or, and_self, ite_true, ite_false, if_true, if_false]
    rfl
def SetW (gi : GI) (S : Nat → Bool) : Prop := ∀ t, t < 6 → gi 52 0 t = b32 (S t)
/-- the street as the class has it -/
def WayS (gi : GI) (K : Nat → Int32) (nt p : Nat) : Prop := gi 10 0 4 = n32 (thK K nt p).length ∧ gi 10 0 5 = n32 (nek K) ∧ gi 10 0 6 = n32 (twk K) ∧ (∀ a b, a < nt → b < nt → gi 48 a b = n32 (twK K a b)) ∧ (∀ i, i < (thK K nt p).length → gi 49 0 i = n32 ((plK K nt p).getD i 0) ∧ gi 50 0 i = n32 ((thK K nt p).getD i 0)) ∧ SetW gi (fun t => decide (t ∈ thK K nt p)) ∧ gi 10 0 1 = n32 (pcF (twK K) (nek K) (gt (plK K nt p)) (gt (thK K nt p)) (thK K nt p).length)
def svMod (s _j : Nat) : Bool := s == 10 || s == 48 || s == 49 || s == 50 || s == 52
theorem svMod_f {s j : Nat} (h : svMod s j = false) : ¬ (s = 10 ∨ s = 48 ∨ s = 49 ∨ s = 50 ∨ s = 52) := by
  unfold svMod at h
  rw [← Bool.not_eq_true] at h
  simp only [Bool.or_eq_true, beq_iff_eq] at h
  omega
theorem c_survey {d nt m : Nat} {gi : GI} {g : AG} {Ls : Nat → List PC} {K : Nat → Int32} {Q : Option AV → AH → Prop} (hB : BK gi g Ls nt m K) (hP : ∀ t, t < nt → PapK gi K t)
    (hq : ∀ gi', Fr svMod gi gi' → WayS gi' K nt 10 → Q none (gi', g)) :
    ax_call (d + 4) m_Street_survey [.inr (.inr (some (10, 0))), .inr (.inr (some (1, 0))), .inr (.inr (some (25, 0)))] (gi, g) Q := by
  have hG := hB.2.1
  have n6 := hB.2.2.1.1
  have b1 := hB.2.2.1.2.2.2.2.1
  obtain ⟨-, -, ⟨t1, t2, t3⟩, ⟨t4, t5⟩⟩ := terms_k hB.2.2.1.2.2.2.2.2.2.2.2.1
  have hte := hB.2.2.1.2.2.2.2.2.2.2.2.2
  have e2 : gi 28 0 2 = n32 (nek K) := (hte 2 (by omega)).trans t1
  have e3 : ∀ v, ax_wI gi 10 0 5 v 28 0 3 = n32 (twk K) := fun v => by rw [wI_ne (by decide)]; exact (hte 3 (by omega)).trans t4
  have c2 : (n32 2).toNatClampNeg = 2 := by decide
  have c3 : (n32 3).toNatClampNeg = 3 := by decide
  have hpl : ∀ t, t < nt → gi 2 t 3 = K (132 * t + 3) := fun t ht => by
    have := (hB.2.2.2.1 t ht).2.1 3 (by omega)
    rw [show 6 * 0 + t = t by omega] at this
    exact this
  -- the places
  have lp := loop_up (n := 10) (P := fun p => ∀ (gi1 : GI) o2 o4, Fr svMod gi gi1 → WayS gi1 K nt p → Runs (d + 3) (m_Street_survey, 118, [some (.inr (.inr (some (10, 0)))), some (.inr (.inr (some (1, 0)))), o2, some (.inl (n32 p)), o4], []) (gi1, g) Q) (by
    intro p hp ih gi1 o2 o4 fr hw
    obtain ⟨w4, w5, w6, w48, w49, w52, w1⟩ := hw
    have hlen := thK_len (K := K) (nt := nt) (p := p) (by omega)
    rw [b_Street_survey_118]
    refine ⟨fun _ => ?_, fun z => absurd (by rw [n32_lt (by omega) (by omega)]; exact hp) z⟩
    rw [b_Street_survey_124, w4]
    refine ⟨fun z => ?_, fun z => ?_⟩
    · rw [n32_lt (by omega) (by omega)] at z
      have hne1 : ¬ n32 p = -1 := by rw [n32_m1 (by omega)]; exact id
      rw [b_Street_survey_133, c_standingIn (d + 2) hG (K := K) ((fr 1 0 1 rfl).trans b1) n6 (fun t ht => (fr 2 t 3 rfl).trans (hpl t ht)) hne1, sIn_fp]
      simp only [ax_psh_some]
      rw [b_Street_survey_138]
      rcases thK_step K nt p with ⟨zz, et, ep⟩ | ⟨zz, et, ep⟩
      · rw [if_pos zz]
        have hnm : ¬ fp K nt p ∈ thK K nt p := fun q => by
          obtain ⟨-, q', h1, h2⟩ := thK_mem q
          rw [fp_at zz, n32_eq (by omega) (by omega)] at h2
          omega
        refine ⟨fun q => absurd q (by rw [n32_m1 (by omega)]; exact id), fun _ => ?_⟩
        have x1 : ∀ v, ax_wI gi1 49 0 (thK K nt p).length v 10 0 4 = n32 (thK K nt p).length := fun v => by rw [wI_ne (by decide), w4]
        have x2 : ∀ v v', ax_wI (ax_wI (ax_wI gi1 49 0 (thK K nt p).length v) 50 0 (thK K nt p).length v') 52 0 (fp K nt p) (n32 1) 10 0 4 = n32 (thK K nt p).length := fun v v' => by rw [wI_ne (by decide), wI_ne (by decide), wI_ne (by decide), w4]
        have x3 : ∀ v v', ax_wI (ax_wI (ax_wI gi1 49 0 (thK K nt p).length v) 50 0 (thK K nt p).length v') 52 0 (fp K nt p) (n32 1) 10 0 1 = n32 (pcF (twK K) (nek K) (gt (plK K nt p)) (gt (thK K nt p)) (thK K nt p).length) := fun v v' => by rw [wI_ne (by decide), wI_ne (by decide), wI_ne (by decide), w1]
        rw [b_Street_survey_146, w4, n32_clamp (by omega), x1, n32_clamp (by omega), n32_clamp (by omega), x2, x3]
        refine ⟨G_10_8 hG 0, n32_in (by omega) (by omega), G_10_9 hG 0, n32_in (by omega) (by omega), G_10_11 hG 0, ⟨Or.inr rfl, n32_in (by omega) (by omega)⟩, ?_⟩
        have y : ∀ s a j, s ≠ 49 → s ≠ 50 → s ≠ 52 → ax_wI (ax_wI (ax_wI gi1 49 0 (thK K nt p).length (n32 p)) 50 0 (thK K nt p).length (n32 (fp K nt p))) 52 0 (fp K nt p) (n32 1) s a j = gi1 s a j := fun s a j q1 q2 q3 => by rw [wI_ne q3, wI_ne q2, wI_ne q1]
        have y49 : ∀ i, ax_wI (ax_wI (ax_wI gi1 49 0 (thK K nt p).length (n32 p)) 50 0 (thK K nt p).length (n32 (fp K nt p))) 52 0 (fp K nt p) (n32 1) 49 0 i = if i = (thK K nt p).length then n32 p else gi1 49 0 i := fun i => by
          rw [wI_ne (by decide), wI_ne (by decide), wI_at]
          by_cases q : i = (thK K nt p).length
          · rw [if_pos ⟨rfl, rfl, q⟩, if_pos q]
          · rw [if_neg (by omega), if_neg q]
        have y50 : ∀ i, ax_wI (ax_wI (ax_wI gi1 49 0 (thK K nt p).length (n32 p)) 50 0 (thK K nt p).length (n32 (fp K nt p))) 52 0 (fp K nt p) (n32 1) 50 0 i = if i = (thK K nt p).length then n32 (fp K nt p) else gi1 50 0 i := fun i => by
          rw [wI_ne (by decide), wI_at]
          by_cases q : i = (thK K nt p).length
          · rw [if_pos ⟨rfl, rfl, q⟩, if_pos q]
          · rw [if_neg (by omega), if_neg q, wI_ne (by decide)]
        have y52 : ∀ t, ax_wI (ax_wI (ax_wI gi1 49 0 (thK K nt p).length (n32 p)) 50 0 (thK K nt p).length (n32 (fp K nt p))) 52 0 (fp K nt p) (n32 1) 52 0 t = if t = fp K nt p then n32 1 else gi1 52 0 t := fun t => by
          rw [wI_at]
          by_cases q : t = fp K nt p
          · rw [if_pos ⟨rfl, rfl, q⟩, if_pos q]
          · rw [if_neg (by omega), if_neg q, wI_ne (by decide), wI_ne (by decide)]
        have fry : Fr svMod gi (ax_wI (ax_wI (ax_wI gi1 49 0 (thK K nt p).length (n32 p)) 50 0 (thK K nt p).length (n32 (fp K nt p))) 52 0 (fp K nt p) (n32 1)) := Fr_wI (Fr_wI (Fr_wI fr rfl) rfl) rfl
        generalize ax_wI (ax_wI (ax_wI gi1 49 0 (thK K nt p).length (n32 p)) 50 0 (thK K nt p).length (n32 (fp K nt p))) 52 0 (fp K nt p) (n32 1) = gi2 at *
        have hpe := pt_len K nt p
        have hpe1 := pt_len K nt (p + 1)
        have eln : (thK K nt (p + 1)).length = (thK K nt p).length + 1 := by rw [et, List.length_append]; rfl
        have z49 : ∀ i, i ≤ (thK K nt p).length → gi2 49 0 i = n32 (gt (plK K nt (p + 1)) i) ∧ gt (plK K nt (p + 1)) i < 10 := fun i hi => by
          refine ⟨?_, by have := plK_lt (K := K) (nt := nt) (p := p + 1) (i := i) (by omega); unfold gt; omega⟩
          unfold gt
          rw [y49, ep, getD_app]
          by_cases q : i = (thK K nt p).length
          · rw [if_pos q, if_neg (by omega), if_pos (by omega)]
          · rw [if_neg q, if_pos (by omega)]
            exact (w49 i (by omega)).1
        have z50 : ∀ i, i ≤ (thK K nt p).length → gi2 50 0 i = n32 (gt (thK K nt (p + 1)) i) ∧ gt (thK K nt (p + 1)) i < nt := fun i hi => by
          unfold gt
          constructor
          · rw [y50, et, getD_app]
            by_cases q : i = (thK K nt p).length
            · rw [if_pos q, if_neg (by omega), if_pos q]
            · rw [if_neg q, if_pos (by omega)]
              exact (w49 i (by omega)).2
          · have hm : (thK K nt (p + 1)).getD i 0 ∈ thK K nt (p + 1) := by
              rw [List.getD_eq_getElem?_getD, List.getElem?_eq_getElem (by omega)]
              exact List.getElem_mem _
            exact (thK_mem hm).1
        rw [c_pairsBefore (d := d + 2) (nt := nt) (ne := nek K) (tw := twK K) (pl := gt (plK K nt (p + 1))) (r := gt (thK K nt (p + 1))) hG n6 z t3 ((y 10 0 5 (by decide) (by decide) (by decide)).trans w5) z49 (fun i hi => plK_inc hi (by omega)) z50 (fun a b ha hb => (y 48 a b (by decide) (by decide) (by decide)).trans (w48 a b ha hb))]
        have hpc : pcF (twK K) (nek K) (gt (plK K nt (p + 1))) (gt (thK K nt (p + 1))) (thK K nt (p + 1)).length = pcF (twK K) (nek K) (gt (plK K nt p)) (gt (thK K nt p)) (thK K nt p).length + pbF (twK K) (nek K) (gt (plK K nt (p + 1))) (gt (thK K nt (p + 1))) (thK K nt p).length := by
          rw [eln]
          show sumN _ _ + _ = _
          congr 1
          refine sumN_congr (fun k hk => sumN_congr (fun s hs => ?_))
          have g1 : ∀ i, i < (thK K nt p).length → gt (plK K nt (p + 1)) i = gt (plK K nt p) i := fun i hi => by
            unfold gt
            rw [ep, getD_app, if_pos (by omega)]
          have g2 : ∀ i, i < (thK K nt p).length → gt (thK K nt (p + 1)) i = gt (thK K nt p) i := fun i hi => by
            unfold gt
            rw [et, getD_app, if_pos hi]
          rw [g1 k hk, g1 s (by omega), g2 k hk, g2 s (by omega)]
        simp only [ax_psh_some]
        have x4 : ∀ v, ax_wI gi2 10 0 1 v 10 0 4 = n32 (thK K nt p).length := fun v => by rw [wI_at, if_neg (by omega), y 10 0 4 (by decide) (by decide) (by decide), w4]
        rw [b_Street_survey_188, x4, b_Street_survey_202, n32_add, n32_add, n32_add, ← hpc]
        refine ih _ _ _ (Fr_wI (Fr_wI fry rfl) rfl) ⟨?_, ?_, ?_, fun a b ha hb => ?_, fun i hi => ⟨?_, ?_⟩, fun t ht => ?_, ?_⟩
        · rw [wI_self, eln]
        · rw [wI_at, if_neg (by omega), wI_at, if_neg (by omega), y 10 0 5 (by decide) (by decide) (by decide), w5]
        · rw [wI_at, if_neg (by omega), wI_at, if_neg (by omega), y 10 0 6 (by decide) (by decide) (by decide), w6]
        · rw [wI_ne (by decide), wI_ne (by decide), y 48 a b (by decide) (by decide) (by decide), w48 a b ha hb]
        · rw [wI_ne (by decide), wI_ne (by decide)]
          exact (z49 i (by omega)).1
        · rw [wI_ne (by decide), wI_ne (by decide)]
          exact (z50 i (by omega)).1
        · rw [wI_ne (by decide), wI_ne (by decide), y52]
          by_cases q : t = fp K nt p
          · rw [if_pos q]
            show n32 1 = b32 (decide (t ∈ thK K nt (p + 1)))
            rw [decide_eq_true (show t ∈ thK K nt (p + 1) by rw [et, q]; exact List.mem_append_right _ (List.mem_singleton.mpr rfl))]
            rfl
          · rw [if_neg q, w52 t ht]
            show b32 (decide (t ∈ thK K nt p)) = b32 (decide (t ∈ thK K nt (p + 1)))
            rw [et]
            simp only [List.mem_append, List.mem_singleton, q, or_false]
        · rw [wI_at, if_neg (by omega), wI_self]
      · rw [if_neg zz]
        refine ⟨fun _ => ?_, fun q => absurd rfl q⟩
        rw [b_Street_survey_202, n32_add]
        refine ih gi1 _ _ fr ?_
        unfold WayS
        rw [et, ep]
        exact ⟨w4, w5, w6, w48, w49, w52, w1⟩
    · rw [n32_lt (by omega) (by omega)] at z
      obtain ⟨f1, f2⟩ := thK_full (K := K) n6 (show p ≤ 10 by omega) (by omega)
      rw [b_Street_survey_208]
      refine hq gi1 fr ?_
      unfold WayS
      rw [f1, f2]
      exact ⟨w4, w5, w6, w48, w49, w52, w1⟩) (by
    intro gi1 o2 o4 fr hw
    rw [b_Street_survey_118]
    refine ⟨fun z => absurd z (by rw [n32_lt (by omega) (by omega)]; omega), fun _ => ?_⟩
    rw [b_Street_survey_208]
    exact hq gi1 fr hw)
  -- nobody waits
  have lw := fun (gi0 : GI) (fr0 : Fr svMod gi gi0) (q4 : gi0 10 0 4 = n32 0) (q5 : gi0 10 0 5 = n32 (nek K)) (q6 : gi0 10 0 6 = n32 (twk K)) (q1 : gi0 10 0 1 = n32 0) (q48 : ∀ a b, a < nt → b < nt → gi0 48 a b = n32 (twK K a b)) => loop_up (n := 6) (P := fun i => ∀ (gi1 : GI) o2 o4, (∀ s a j, s ≠ 52 → gi1 s a j = gi0 s a j) → (∀ t, t < i → gi1 52 0 t = n32 0) → Runs (d + 3) (m_Street_survey, 97, [some (.inr (.inr (some (10, 0)))), some (.inr (.inr (some (1, 0)))), o2, some (.inl (n32 i)), o4], []) (gi1, g) Q) (by
    intro i hi ih gi1 o2 o4 f1 f2
    rw [b_Street_survey_97]
    refine ⟨fun _ => ?_, fun z => absurd (by rw [n32_lt (by omega) (by omega)]; exact hi) z⟩
    rw [b_Street_survey_103, n32_clamp (by omega), n32_add]
    refine ⟨G_10_11 hG 0, ⟨Or.inl rfl, n32_in (by omega) (by omega)⟩, ?_⟩
    refine ih _ _ _ (fun s a j q => ?_) (fun t ht => ?_)
    · rw [wI_ne q]
      exact f1 s a j q
    · rw [wI_at]
      by_cases q : t = i
      · rw [if_pos ⟨rfl, rfl, q⟩]
      · rw [if_neg (by omega)]
        exact f2 t (by omega)) (by
    intro gi1 o2 o4 f1 f2
    rw [b_Street_survey_97]
    refine ⟨fun z => absurd z (by rw [n32_lt (by omega) (by omega)]; omega), fun _ => ?_⟩
    rw [b_Street_survey_116]
    refine lp 0 (Nat.zero_le _) gi1 _ _ (fun s a j q => ?_) ⟨(f1 10 0 4 (by decide)).trans q4, (f1 10 0 5 (by decide)).trans q5, (f1 10 0 6 (by decide)).trans q6, fun a b ha hb => (f1 48 a b (by decide)).trans (q48 a b ha hb), fun i hi => absurd hi (Nat.not_lt_zero i), fun t ht => ?_, (f1 10 0 1 (by decide)).trans q1⟩
    · have := svMod_f q
      rw [f1 s a j (by omega)]
      exact fr0 s a j q
    · rw [f2 t ht]
      rfl)
  -- twins
  have la := loop_up (n := nt) (P := fun a => ∀ (gi1 : GI) o4, (∀ s a j, s ≠ 10 → s ≠ 48 → gi1 s a j = gi s a j) → gi1 10 0 5 = n32 (nek K) → gi1 10 0 6 = n32 (twk K) → (∀ a' b, a' < a → b < nt → gi1 48 a' b = n32 (twK K a' b)) → Runs (d + 3) (m_Street_survey, 22, [some (.inr (.inr (some (10, 0)))), some (.inr (.inr (some (1, 0)))), some (.inr (.inr (some (25, 0)))), some (.inl (n32 a)), o4], []) (gi1, g) Q) ?_ ?_
  · rw [e_Street_survey, b_Street_survey_0, c2, c3, e2, e3]
    refine ⟨G_1_5 hG 0, n32_in (by omega) (by omega), G_1_5 hG 0, n32_in (by omega) (by omega), ?_⟩
    refine la 0 (Nat.zero_le _) _ _ (fun s a j q1 q2 => ?_) ?_ ?_ (fun a' b h => absurd h (Nat.not_lt_zero a'))
    · rw [wI_ne q1, wI_ne q1]
    · rw [wI_at, if_neg (by omega), wI_self]
    · rw [wI_self]
  · intro a ha ih gi1 o4 f1 f5 f6 f48
    have lb := loop_up (n := nt) (P := fun b => ∀ gi2 : GI, (∀ s a j, s ≠ 10 → s ≠ 48 → gi2 s a j = gi s a j) → gi2 10 0 5 = n32 (nek K) → gi2 10 0 6 = n32 (twk K) → (∀ a' b', a' < a → b' < nt → gi2 48 a' b' = n32 (twK K a' b')) → (∀ b', b' < b → gi2 48 a b' = n32 (twK K a b')) → Runs (d + 3) (m_Street_survey, 33, [some (.inr (.inr (some (10, 0)))), some (.inr (.inr (some (1, 0)))), some (.inr (.inr (some (25, 0)))), some (.inl (n32 a)), some (.inl (n32 b))], []) (gi2, g) Q) ?_ ?_
    · have e11 : gi1 1 0 1 = n32 nt := (f1 1 0 1 (by decide) (by decide)).trans b1
      rw [b_Street_survey_22]
      simp (disch := omega) only [b_Street_survey_30, e11, ha, n32_add, n32_mul, n32_lt, n32_le, n32_eq, n32_clamp, n32_inT, n32_div, n32_rem, n32_m1, n32_m1', n32_m1lt, n32_ltm1, n32_10, n32_01, Nat.not_lt_zero, Nat.lt_irrefl, Nat.mul_zero, Nat.zero_mul, Nat.zero_add, Nat.add_zero, Nat.reduceEqDiff, Nat.one_ne_zero, Nat.zero_ne_one, ax_psh_none, ax_psh_some, true_and, and_true, and_false, false_and, not_true_eq_false, not_false_eq_true, true_imp_iff, false_imp_iff, imp_self, or_true, true_or, or_false, false_or, and_self, ite_true, ite_false, if_true, if_false]
      exact lb 0 (Nat.zero_le _) gi1 f1 f5 f6 f48 (fun b h => absurd h (Nat.not_lt_zero b))
    · intro b hb ihb gi2 q1 q5 q6 q48 q48a
      have e11 : gi2 1 0 1 = n32 nt := (q1 1 0 1 (by decide) (by decide)).trans b1
      have hva := thing_b hB ha
      have hPa : Pap gi2 a (Wk K a) (Tk K a) (Ok K a) (bk K a) := by
        obtain ⟨⟨p0, p1, p4, pW, pT, pw⟩, h2, h3, h54, hb', h55, h56⟩ := hP a ha
        exact ⟨⟨(q1 _ _ _ (by decide) (by decide)).trans p0, (q1 _ _ _ (by decide) (by decide)).trans p1, (q1 _ _ _ (by decide) (by decide)).trans p4, pW, pT, fun f hf c hc => (q1 _ _ _ (by decide) (by decide)).trans (pw f hf c hc)⟩, (q1 _ _ _ (by decide) (by decide)).trans h2, (q1 _ _ _ (by decide) (by decide)).trans h3, fun c hc => (q1 _ _ _ (by decide) (by decide)).trans (h54 c hc), hb', fun l hl => (q1 _ _ _ (by decide) (by decide)).trans (h55 l hl), fun p hp => (q1 _ _ _ (by decide) (by decide)).trans (h56 p hp)⟩
      have hCb : ThC gi2 b (Wk K b) (Tk K b) (Ok K b) (bk K b) := ThC_fr (thing_b hB hb).1 (fun j => q1 2 b j (by decide) (by decide)) (fun j => q1 29 b j (by decide) (by decide))
      have next : Runs (d + 3) (m_Street_survey, 72, [some (.inr (.inr (some (10, 0)))), some (.inr (.inr (some (1, 0)))), some (.inr (.inr (some (25, 0)))), some (.inl (n32 a)), some (.inl (n32 b))], [.inl (n32 (twK K a b)), .inl (n32 b), .inr (.inr (some (48, a)))]) (gi2, g) Q := by
        rw [b_Street_survey_72, n32_clamp (by omega), n32_add]
        refine ⟨n32_in (by omega) (by omega), ?_⟩
        refine ihb _ (fun s a' j h1 h2 => ?_) ?_ ?_ (fun a' b' h1 h2 => ?_) (fun b' h1 => ?_)
        · rw [wI_ne h2]
          exact q1 s a' j h1 h2
        · rw [wI_ne (by decide), q5]
        · rw [wI_ne (by decide), q6]
        · rw [wI_at, if_neg (by omega)]
          exact q48 a' b' h1 h2
        · rw [wI_at]
          by_cases q : b' = b
          · rw [if_pos ⟨rfl, rfl, q⟩, q]
          · rw [if_neg (by omega)]
            exact q48a b' (by omega)
      rw [b_Street_survey_33]
      simp (disch := omega) only [b_Street_survey_42, e11, hb, G_0_0 hG, G_0_1 hG, G_0_2 hG, G_0_3 hG, G_0_7 hG, G_0_10 hG, G_0_12 hG, G_0_13 hG, G_0_14 hG, G_0_15 hG, G_0_16 hG, G_0_17 hG, G_1_0 hG, G_1_2 hG, G_1_5 hG, G_2_4 hG, G_2_5 hG, G_3_5 hG, G_3_6 hG, G_3_7 hG, G_3_8 hG, G_3_9 hG, G_5_0 hG, G_5_1 hG, G_6_0 hG, G_6_1 hG, G_6_2 hG, G_6_9 hG, G_6_10 hG, G_6_11 hG, G_6_12 hG, G_6_13 hG, G_7_0 hG, G_7_5 hG, G_8_8 hG, G_8_9 hG, G_9_8 hG, G_9_9 hG, G_10_7 hG, G_10_8 hG, G_10_9 hG, G_10_10 hG, G_10_11 hG, G_11_0 hG, G_12_2 hG, G_12_3 hG, G_12_4 hG, G_12_5 hG, G_12_7 hG, G_12_8 hG, G_12_9 hG, G_12_12 hG, G_12_13 hG, G_12_14 hG, G_12_22 hG, G_12_23 hG, G_12_29 hG, G_12_30 hG, G_12_31 hG, G_12_37 hG, G_12_38 hG, G_12_39 hG, G_12_40 hG, G_12_41 hG, G_12_43 hG, G_12_46 hG, G_12_47 hG, G_12_48 hG, G_25 hG, G_26 hG, G_47 hG, G_58 hG, n32_add, n32_mul, n32_lt, n32_le, n32_eq, n32_clamp, n32_inT, n32_div, n32_rem, n32_m1, n32_m1', n32_m1lt, n32_ltm1, n32_10, n32_01, Nat.not_lt_zero, Nat.lt_irrefl, Nat.mul_zero, Nat.zero_mul, Nat.zero_add, Nat.add_zero, Nat.reduceEqDiff, Nat.one_ne_zero, Nat.zero_ne_one, ax_psh_none, ax_psh_some, true_and, and_true, and_false, false_and, not_true_eq_false, not_false_eq_true, true_imp_iff, false_imp_iff, imp_self, or_true, true_or, or_false, false_or, and_self, ite_true, ite_false, if_true, if_false]
      rw [c_isFormOf d hG (by omega) hPa hCb (by omega)]
      simp only [ax_psh_some]
      rw [b_Street_survey_64]
      have hF : isF (Wk K a) (Tk K a) 0 = true := rfl
      rw [hF, Bool.true_and]
      unfold twK at next
      cases hz : asB (Wk K a) (Tk K a) (bk K a) (Wk K b) (Tk K b) (bk K b) 0 with
      | false =>
        rw [hz] at next
        refine ⟨fun _ => ?_, fun q => absurd rfl q⟩
        rw [b_Street_survey_71]
        exact next
      | true =>
        rw [hz] at next
        refine ⟨fun q => absurd q (by decide), fun _ => ?_⟩
        rw [b_Street_survey_67]
        exact next
    · intro gi2 q1 q5 q6 q48 q48a
      have e11 : gi2 1 0 1 = n32 nt := (q1 1 0 1 (by decide) (by decide)).trans b1
      rw [b_Street_survey_33]
      simp (disch := omega) only [b_Street_survey_79, e11, n32_add, n32_mul, n32_lt, n32_le, n32_eq, n32_clamp, n32_inT, n32_div, n32_rem, n32_m1, n32_m1', n32_m1lt, n32_ltm1, n32_10, n32_01, Nat.not_lt_zero, Nat.lt_irrefl, Nat.mul_zero, Nat.zero_mul, Nat.zero_add, Nat.add_zero, Nat.reduceEqDiff, Nat.one_ne_zero, Nat.zero_ne_one, ax_psh_none, ax_psh_some, true_and, and_true, and_false, false_and, not_true_eq_false, not_false_eq_true, true_imp_iff, false_imp_iff, imp_self, or_true, true_or, or_false, false_or, and_self, ite_true, ite_false, if_true, if_false]
      refine ih gi2 _ q1 q5 q6 (fun a' b' h1 h2 => ?_)
      by_cases q : a' = a
      · rw [q]
        exact q48a b' h2
      · exact q48 a' b' (by omega) h2
  · intro gi1 o4 f1 f5 f6 f48
    have e11 : gi1 1 0 1 = n32 nt := (f1 1 0 1 (by decide) (by decide)).trans b1
    rw [b_Street_survey_22]
    simp (disch := omega) only [b_Street_survey_85, e11, n32_add, n32_mul, n32_lt, n32_le, n32_eq, n32_clamp, n32_inT, n32_div, n32_rem, n32_m1, n32_m1', n32_m1lt, n32_ltm1, n32_10, n32_01, Nat.not_lt_zero, Nat.lt_irrefl, Nat.mul_zero, Nat.zero_mul, Nat.zero_add, Nat.add_zero, Nat.reduceEqDiff, Nat.one_ne_zero, Nat.zero_ne_one, ax_psh_none, ax_psh_some, true_and, and_true, and_false, false_and, not_true_eq_false, not_false_eq_true, true_imp_iff, false_imp_iff, imp_self, or_true, true_or, or_false, false_or, and_self, ite_true, ite_false, if_true, if_false]
    refine lw (ax_wI (ax_wI gi1 10 0 4 (n32 0)) 10 0 1 (n32 0)) (fun s a j q => ?_) ?_ ?_ ?_ ?_ (fun a b ha hb => ?_) 0 (Nat.zero_le _) _ _ _ (fun _ _ _ _ => rfl) (fun t h => absurd h (Nat.not_lt_zero t))
    · have := svMod_f q
      rw [wI_ne (by omega), wI_ne (by omega)]
      exact f1 s a j (by omega) (by omega)
    · rw [wI_at, if_neg (by omega), wI_self]
    · rw [wI_at, if_neg (by omega), wI_at, if_neg (by omega), f5]
    · rw [wI_at, if_neg (by omega), wI_at, if_neg (by omega), f6]
    · rw [wI_self]
    · rw [wI_ne (by decide), wI_ne (by decide)]
      exact f48 a b ha hb
