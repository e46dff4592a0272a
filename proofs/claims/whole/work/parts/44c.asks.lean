/-! what is owed, asked on both -/
theorem PI_ow {gi gi' : GI} (h : ∀ t, t < 6 → PaperInv gi t) (hf : Fr owMod gi gi') : ∀ t, t < 6 → PaperInv gi' t := fun t ht => PaperInv_of (h t ht) (fun j => hf 3 t j rfl) (fun a j => hf 59 a j rfl)
theorem St_ow {gi gi' : GI} {s : Nat} (h : Stamps gi s) (hf : Fr owMod gi gi') : Stamps gi' s := Stamps_of h (hf 7 0 4 rfl) (fun j => hf 39 0 j rfl)
theorem St_q {gi gi' : GI} {s n : Nat} (h : Stamps gi s) (hf : OnlyPs n gi gi') : Stamps gi' s := Stamps_of h (hf 7 0 4 (by omega) (by omega) (by omega)) (fun j => hf 39 0 j (by omega) (by omega) (by omega))
theorem q_end {n s : Nat} {gi gi' : GI} {g g' : AG} {Ls : Nat → List PC} {Q : Option AV → Option AV → AH → Prop} (hC : Core n gi g Ls) (hQ : ∀ v gi' g' Ls', Core (n + 1) gi' g' Ls' → Step gi gi' → ((gi' 0 0 9 = gi 0 0 9 + n32 1) ∨ Ls' = Ls) → Q (some (.inl v)) (some (.inl v)) (gi', g')) (hf : Fr qMod gi gi') (hg : GF g g') (hp : ∀ t, t < 6 → PaperInv gi' t) (hs : Stamps gi' s) (hs2 : s ≤ 300 * (n + 1)) (v : Int32) : Q (some (.inl v)) (some (.inl v)) (gi', g') := by
  have h := Core_q hC hf hg hp ⟨s, hs2, hs⟩
  exact hQ v gi' g' Ls h.1 h.2 (Or.inr rfl)
theorem lawM_b {gi : GI} {g : AG} {Ls : Nat → List PC} {nt m : Nat} {K : Nat → Int32} {x : Int32} (h : BK gi g Ls nt m K) (hx : x = -1 ∨ ∃ f, f < m ∧ x = n32 f) : (x = -1 ∧ lawL Ls x = none) ∨ ∃ l l', x = n32 l ∧ l < 6 ∧ KLaw (gi 64 0) l l' ∧ lawL Ls x = some l' := by
  obtain ⟨rfl, hG, hN, hT, hL⟩ := h
  exact law_m hL hN.2.1 hx
theorem c_M_owesOf_b {D t nt m : Nat} {gi : GI} {g : AG} {Ls : Nat → List PC} {K : Nat → Int32} {Q : Option AV → AH → Prop} (hD : 47 ≤ D) (hB : BK gi g Ls nt m K) (ht : t < nt)
    (hq : ∀ gi', Fr owMod gi gi' → Q (some (.inl (n32 (owK K (lawL Ls (K 798)) (dyk K) (bk K) t)))) (gi', g)) :
    ax_call D m_M_owesOf [.inr (.inr (some (12, 0))), .inl (n32 t)] (gi, g) Q := by
  have hv := thing_b hB ht
  have hL := lawM_b hB hB.2.2.1.2.2.2.2.2.2.2.1
  obtain ⟨rfl, hG, ⟨n6, m6, k796, k797, b1, b3, b4, hfo, hte, hte2⟩, hTh, hLw⟩ := hB
  obtain ⟨⟨a1, a2⟩, ⟨a3, a4⟩, -, -⟩ := terms_k hte
  exact c_M_owesOf hD hG (by omega) hv.2.1 hv.2.2.1 a3 (by omega) hL a1 (by omega) hq
theorem c_M_owes_all {D nt m : Nat} {gi : GI} {g : AG} {Ls : Nat → List PC} {K : Nat → Int32} {Q : Option AV → AH → Prop} (hD : 48 ≤ D) (hB : BK gi g Ls nt m K)
    (hq : ∀ gi', Fr owMod gi gi' → Q (some (.inl (n32 (sumN (owK K (lawL Ls (K 798)) (dyk K) (bk K)) nt)))) (gi', g)) :
    ax_call D m_M_owes [.inr (.inr (some (12, 0))), .inl (-1)] (gi, g) Q := by
  obtain ⟨d, rfl⟩ : ∃ d2, D = d2 + 2 := ⟨D - 2, by omega⟩
  have hG := hB.2.1
  have n6 := hB.2.2.1.1
  have key := loop_up (n := nt) (P := fun i => ∀ (gi1 : GI) o1, Fr owMod gi gi1 → Runs (d + 1) (m_M_owes, 27, [some (.inr (.inr (some (12, 0)))), o1, some (.inl (n32 (sumN (owK K (lawL Ls (K 798)) (dyk K) (bk K)) i))), some (.inl (n32 i))], []) (gi1, g) Q) ?_ ?_
  · rw [e_M_owes, b_M_owes_0]
    refine ⟨fun _ => ?_, fun z => absurd rfl z⟩
    rw [b_M_owes_23]
    exact key 0 (Nat.zero_le _) gi _ (Fr_refl _ _)
  · intro i hi ih gi1 o1 fr
    have hB1 := BK_q hB (qMod_ow fr) (GF_refl hG)
    have e796 : gi1 64 0 796 = n32 nt := by rw [hB1.1]; exact hB1.2.2.1.2.2.1
    rw [b_M_owes_27]
    simp (disch := omega) only [b_M_owes_32, b_M_owes_35, c_M_things _ _ _ _ hG, e796, hi, n32_add, n32_mul, n32_lt, n32_le, n32_eq, n32_clamp, n32_inT, n32_div, n32_rem, n32_m1, n32_m1', n32_m1lt, n32_ltm1, n32_10, n32_01, Nat.not_lt_zero, Nat.lt_irrefl, Nat.mul_zero, Nat.zero_mul, Nat.zero_add, Nat.add_zero, Nat.reduceEqDiff, Nat.one_ne_zero, Nat.zero_ne_one, ax_psh_none, ax_psh_some, true_and, and_true, and_false, false_and, not_true_eq_false, not_false_eq_true, true_imp_iff, false_imp_iff, imp_self, or_true, true_or, or_false, false_or, and_self, ite_true, ite_false, if_true, if_false]
    refine c_M_owesOf_b (D := d + 1) (by omega) hB1 hi ?_
    intro gi2 fr2
    simp only [b_M_owes_41, n32_add, ax_psh_none, ax_psh_some, true_and, and_true, and_false, false_and, not_true_eq_false, not_false_eq_true, true_imp_iff, false_imp_iff, imp_self, or_true, true_or, or_false, false_or, and_self, ite_true, ite_false, if_true, if_false]
    exact ih gi2 _ (Fr_trans fr fr2)
  · intro gi1 o1 fr
    have hB1 := BK_q hB (qMod_ow fr) (GF_refl hG)
    have e796 : gi1 64 0 796 = n32 nt := by rw [hB1.1]; exact hB1.2.2.1.2.2.1
    rw [b_M_owes_27]
    simp (disch := omega) only [b_M_owes_32, b_M_owes_49, c_M_things _ _ _ _ hG, e796, n32_add, n32_mul, n32_lt, n32_le, n32_eq, n32_clamp, n32_inT, n32_div, n32_rem, n32_m1, n32_m1', n32_m1lt, n32_ltm1, n32_10, n32_01, Nat.not_lt_zero, Nat.lt_irrefl, Nat.mul_zero, Nat.zero_mul, Nat.zero_add, Nat.add_zero, Nat.reduceEqDiff, Nat.one_ne_zero, Nat.zero_ne_one, ax_psh_none, ax_psh_some, true_and, and_true, and_false, false_and, not_true_eq_false, not_false_eq_true, true_imp_iff, false_imp_iff, imp_self, or_true, true_or, or_false, false_or, and_self, ite_true, ite_false, if_true, if_false]
    exact hq gi1 fr
def ownN (K : Nat → Int32) (Ls : Nat → List PC) (o t : Nat) : Nat := if Ok K t = o then owK K (lawL Ls (K 798)) (dyk K) (bk K) t else 0
theorem c_M_owner {D nt m o : Nat} {gi : GI} {g : AG} {Ls : Nat → List PC} {K : Nat → Int32} {Q : Option AV → AH → Prop} (hD : 48 ≤ D) (ho : o < 6) (hB : BK gi g Ls nt m K)
    (hq : ∀ gi', Fr owMod gi gi' → Q (some (.inl (n32 (sumN (ownN K Ls o) nt)))) (gi', g)) :
    ax_call D m_M_owner [.inr (.inr (some (12, 0))), .inl (n32 o)] (gi, g) Q := by
  obtain ⟨d, rfl⟩ : ∃ d2, D = d2 + 2 := ⟨D - 2, by omega⟩
  have hG := hB.2.1
  have n6 := hB.2.2.1.1
  have key := loop_up (n := nt) (P := fun i => ∀ (gi1 : GI), Fr owMod gi gi1 → Runs (d + 1) (m_M_owner, 15, [some (.inr (.inr (some (12, 0)))), some (.inl (n32 o)), some (.inl (n32 (sumN (ownN K Ls o) i))), some (.inl (n32 i))], []) (gi1, g) Q) ?_ ?_
  · rw [e_M_owner, b_M_owner_0]
    simp (disch := omega) only [b_M_owner_6, b_M_owner_11, c_M_lies, win_T (Nat.zero_le o) (by omega : o ≤ 5), n32_add, n32_mul, n32_lt, n32_le, n32_eq, n32_clamp, n32_inT, n32_div, n32_rem, n32_m1, n32_m1', n32_m1lt, n32_ltm1, n32_10, n32_01, Nat.not_lt_zero, Nat.lt_irrefl, Nat.mul_zero, Nat.zero_mul, Nat.zero_add, Nat.add_zero, Nat.reduceEqDiff, Nat.one_ne_zero, Nat.zero_ne_one, ax_psh_none, ax_psh_some, true_and, and_true, and_false, false_and, not_true_eq_false, not_false_eq_true, true_imp_iff, false_imp_iff, imp_self, or_true, true_or, or_false, false_or, and_self, ite_true, ite_false, if_true, if_false]
    exact key 0 (Nat.zero_le _) gi (Fr_refl _ _)
  · intro i hi ih gi1 fr
    have hB1 := BK_q hB (qMod_ow fr) (GF_refl hG)
    have hv := thing_b hB1 hi
    have hO := hv.2.2.1
    have e796 : gi1 64 0 796 = n32 nt := by rw [hB1.1]; exact hB1.2.2.1.2.2.1
    rw [b_M_owner_15]
    by_cases z : Ok K i = o
    · simp (disch := omega) only [b_M_owner_20, b_M_owner_23, b_M_owner_30, b_M_owner_34, c_M_things _ _ _ _ hG, c_M_factOf _ _ _ _ hG, hv.2.1.2.2.1, e796, hi, z, n32_add, n32_mul, n32_lt, n32_le, n32_eq, n32_clamp, n32_inT, n32_div, n32_rem, n32_m1, n32_m1', n32_m1lt, n32_ltm1, n32_10, n32_01, Nat.not_lt_zero, Nat.lt_irrefl, Nat.mul_zero, Nat.zero_mul, Nat.zero_add, Nat.add_zero, Nat.reduceEqDiff, Nat.one_ne_zero, Nat.zero_ne_one, ax_psh_none, ax_psh_some, true_and, and_true, and_false, false_and, not_true_eq_false, not_false_eq_true, true_imp_iff, false_imp_iff, imp_self, or_true, true_or, or_false, false_or, and_self, ite_true, ite_false, if_true, if_false]
      refine c_M_owesOf_b (D := d + 1) (by omega) hB1 hi ?_
      intro gi2 fr2
      simp only [b_M_owner_39, b_M_owner_43, n32_add, ax_psh_none, ax_psh_some, true_and, and_true, and_false, false_and, not_true_eq_false, not_false_eq_true, true_imp_iff, false_imp_iff, imp_self, or_true, true_or, or_false, false_or, and_self, ite_true, ite_false, if_true, if_false]
      have := ih gi2 (Fr_trans fr fr2)
      rw [sumN_succ, ownN, if_pos z] at this
      exact this
    · simp (disch := omega) only [b_M_owner_20, b_M_owner_23, b_M_owner_30, b_M_owner_42, b_M_owner_43, c_M_things _ _ _ _ hG, c_M_factOf _ _ _ _ hG, hv.2.1.2.2.1, e796, hi, z, n32_add, n32_mul, n32_lt, n32_le, n32_eq, n32_clamp, n32_inT, n32_div, n32_rem, n32_m1, n32_m1', n32_m1lt, n32_ltm1, n32_10, n32_01, Nat.not_lt_zero, Nat.lt_irrefl, Nat.mul_zero, Nat.zero_mul, Nat.zero_add, Nat.add_zero, Nat.reduceEqDiff, Nat.one_ne_zero, Nat.zero_ne_one, ax_psh_none, ax_psh_some, true_and, and_true, and_false, false_and, not_true_eq_false, not_false_eq_true, true_imp_iff, false_imp_iff, imp_self, or_true, true_or, or_false, false_or, and_self, ite_true, ite_false, if_true, if_false]
      have := ih gi1 fr
      rw [sumN_succ, ownN, if_neg z] at this
      exact this
  · intro gi1 fr
    have hB1 := BK_q hB (qMod_ow fr) (GF_refl hG)
    have e796 : gi1 64 0 796 = n32 nt := by rw [hB1.1]; exact hB1.2.2.1.2.2.1
    rw [b_M_owner_15]
    simp (disch := omega) only [b_M_owner_20, b_M_owner_51, c_M_things _ _ _ _ hG, e796, n32_add, n32_mul, n32_lt, n32_le, n32_eq, n32_clamp, n32_inT, n32_div, n32_rem, n32_m1, n32_m1', n32_m1lt, n32_ltm1, n32_10, n32_01, Nat.not_lt_zero, Nat.lt_irrefl, Nat.mul_zero, Nat.zero_mul, Nat.zero_add, Nat.add_zero, Nat.reduceEqDiff, Nat.one_ne_zero, Nat.zero_ne_one, ax_psh_none, ax_psh_some, true_and, and_true, and_false, false_and, not_true_eq_false, not_false_eq_true, true_imp_iff, false_imp_iff, imp_self, or_true, true_or, or_false, false_or, and_self, ite_true, ite_false, if_true, if_false]
    exact hq gi1 fr
theorem win_law {m : Nat} {x : Int32} (hm : m ≤ 6) : (win x (-1) (n32 m - n32 1) = n32 1 ∧ (x = -1 ∨ ∃ f, f < m ∧ x = n32 f)) ∨ (win x (-1) (n32 m - n32 1) = n32 0 ∧ ¬ x = -1 ∧ win x (n32 0) (n32 m - n32 1) = n32 0) := by
  have em : n32 m - n32 1 = Int32.ofInt ((m : Int) - 1) := by
    have cs : m = 0 ∨ m = 1 ∨ m = 2 ∨ m = 3 ∨ m = 4 ∨ m = 5 ∨ m = 6 := by omega
    rcases cs with rfl | rfl | rfl | rfl | rfl | rfl | rfl <;> decide
  by_cases z : x = -1
  · left
    subst z
    refine ⟨?_, Or.inl rfl⟩
    have cs : m = 0 ∨ m = 1 ∨ m = 2 ∨ m = 3 ∨ m = 4 ∨ m = 5 ∨ m = 6 := by omega
    rcases cs with rfl | rfl | rfl | rfl | rfl | rfl | rfl <;> decide
  · rcases win_cases x m (by omega) with ⟨k, hk, rfl⟩ | hw
    · left
      refine ⟨?_, Or.inr ⟨k, hk, rfl⟩⟩
      rw [n32_sub (by omega)]
      unfold win
      rw [if_neg, if_neg]
      · rw [n32_lt (by omega) (by omega)]; omega
      · rw [n32_ltm1 (by omega)]; exact id
    · right
      refine ⟨?_, z, hw⟩
      unfold win at hw ⊢
      by_cases h1 : x < n32 0
      · have : x < -1 := by
          rw [Int32.lt_iff_toInt_lt] at h1 ⊢
          have e0 : (n32 0).toInt = 0 := by decide
          have e1 : (-1 : Int32).toInt = -1 := by decide
          have e2 : x.toInt ≠ -1 := fun q => z (Int32.toInt_inj.mp (q.trans e1.symm))
          rw [e0] at h1
          rw [e1]
          omega
        rw [if_pos this]
      · rw [if_neg h1] at hw
        by_cases h2 : n32 m - n32 1 < x
        · rw [if_pos h2]
          simp
        · rw [if_neg h2] at hw
          exact absurd hw (by decide)
theorem c_M_brings {D nt m : Nat} {x : Int32} {gi : GI} {g : AG} {Ls : Nat → List PC} {K : Nat → Int32} {Q : Option AV → AH → Prop} (hD : 48 ≤ D) (hx : x = -1 ∨ ∃ f, f < m ∧ x = n32 f) (hw : win x (-1) (n32 m - n32 1) = n32 1) (hB : BK gi g Ls nt m K)
    (hq : ∀ gi', Fr owMod gi gi' → Q (some (.inl (n32 (sumN (owK K (lawL Ls x) (dyk K) (bk K)) nt)))) (gi', g)) :
    ax_call D m_M_brings [.inr (.inr (some (12, 0))), .inl x] (gi, g) Q := by
  obtain ⟨d, rfl⟩ : ∃ d2, D = d2 + 2 := ⟨D - 2, by omega⟩
  have hG := hB.2.1
  have n6 := hB.2.2.1.1
  have e797 : gi 64 0 797 = n32 m := by rw [hB.1]; exact hB.2.2.1.2.2.2.1
  have c797 : (n32 797).toNatClampNeg = 797 := by decide
  have key := loop_up (n := nt) (P := fun i => ∀ (gi1 : GI), Fr owMod gi gi1 → Runs (d + 1) (m_M_brings, 24, [some (.inr (.inr (some (12, 0)))), some (.inl x), some (.inl (n32 (sumN (owK K (lawL Ls x) (dyk K) (bk K)) i))), some (.inl (n32 i))], []) (gi1, g) Q) ?_ ?_
  · rw [e_M_brings, b_M_brings_0, c797, e797]
    simp (disch := omega) only [b_M_brings_15, b_M_brings_20, c_M_lies, hw, G_0_0 hG, G_0_1 hG, G_0_2 hG, G_0_3 hG, G_0_7 hG, G_0_10 hG, G_0_12 hG, G_0_13 hG, G_0_14 hG, G_0_15 hG, G_0_16 hG, G_0_17 hG, G_1_0 hG, G_1_2 hG, G_1_5 hG, G_2_4 hG, G_2_5 hG, G_3_5 hG, G_3_6 hG, G_3_7 hG, G_3_8 hG, G_3_9 hG, G_5_0 hG, G_5_1 hG, G_6_0 hG, G_6_1 hG, G_6_2 hG, G_6_9 hG, G_6_10 hG, G_6_11 hG, G_6_12 hG, G_6_13 hG, G_7_0 hG, G_7_5 hG, G_8_8 hG, G_8_9 hG, G_9_8 hG, G_9_9 hG, G_10_7 hG, G_10_8 hG, G_10_9 hG, G_10_10 hG, G_10_11 hG, G_11_0 hG, G_12_2 hG, G_12_3 hG, G_12_4 hG, G_12_5 hG, G_12_7 hG, G_12_8 hG, G_12_9 hG, G_12_12 hG, G_12_13 hG, G_12_14 hG, G_12_22 hG, G_12_23 hG, G_12_29 hG, G_12_30 hG, G_12_31 hG, G_12_37 hG, G_12_38 hG, G_12_39 hG, G_12_40 hG, G_12_41 hG, G_12_43 hG, G_12_46 hG, G_12_47 hG, G_12_48 hG, G_25 hG, G_26 hG, G_47 hG, G_58 hG, n32_add, n32_mul, n32_lt, n32_le, n32_eq, n32_clamp, n32_inT, n32_div, n32_rem, n32_m1, n32_m1', n32_m1lt, n32_ltm1, n32_10, n32_01, Nat.not_lt_zero, Nat.lt_irrefl, Nat.mul_zero, Nat.zero_mul, Nat.zero_add, Nat.add_zero, Nat.reduceEqDiff, Nat.one_ne_zero, Nat.zero_ne_one, ax_psh_none, ax_psh_some, true_and, and_true, and_false, false_and, not_true_eq_false, not_false_eq_true, true_imp_iff, false_imp_iff, imp_self, or_true, true_or, or_false, false_or, and_self, ite_true, ite_false, if_true, if_false]
    exact key 0 (Nat.zero_le _) gi (Fr_refl _ _)
  · intro i hi ih gi1 fr
    have hB1 := BK_q hB (qMod_ow fr) (GF_refl hG)
    have hv := thing_b hB1 hi
    have hL := lawM_b hB1 hx
    have e796 : gi1 64 0 796 = n32 nt := by rw [hB1.1]; exact hB1.2.2.1.2.2.1
    obtain ⟨⟨a1, a2⟩, ⟨a3, a4⟩, -, -⟩ := terms_k hB1.2.2.1.2.2.2.2.2.2.2.2.1
    rw [b_M_brings_24]
    simp (disch := omega) only [b_M_brings_29, b_M_brings_32, c_M_things _ _ _ _ hG, e796, hi, n32_add, n32_mul, n32_lt, n32_le, n32_eq, n32_clamp, n32_inT, n32_div, n32_rem, n32_m1, n32_m1', n32_m1lt, n32_ltm1, n32_10, n32_01, Nat.not_lt_zero, Nat.lt_irrefl, Nat.mul_zero, Nat.zero_mul, Nat.zero_add, Nat.add_zero, Nat.reduceEqDiff, Nat.one_ne_zero, Nat.zero_ne_one, ax_psh_none, ax_psh_some, true_and, and_true, and_false, false_and, not_true_eq_false, not_false_eq_true, true_imp_iff, false_imp_iff, imp_self, or_true, true_or, or_false, false_or, and_self, ite_true, ite_false, if_true, if_false]
    obtain ⟨d', rfl⟩ : ∃ d2, d = d2 + 1 := ⟨d - 1, by omega⟩
    refine c_M_lays (d := d') hG (by omega) hv.2.1 ?_
    intro gi2 fr2 hl h27 h28
    simp only [b_M_brings_37, ax_psh_none, ax_psh_some, true_and, and_true, and_false, false_and, not_true_eq_false, not_false_eq_true, true_imp_iff, false_imp_iff, imp_self, or_true, true_or, or_false, false_or, and_self, ite_true, ite_false, if_true, if_false]
    have e64 : ∀ j, ax_wI gi2 12 0 27 x 64 0 j = gi1 64 0 j := fun j => by rw [wI_at, if_neg (by omega)]; exact fr2 64 0 j rfl
    have e27 : ax_wI gi2 12 0 27 x 12 0 27 = x := by simp [wI_at]
    have e28 : ax_wI gi2 12 0 27 x 12 0 28 = gi2 12 0 28 := by simp [wI_at]
    have hl2 : Laid (ax_wI gi2 12 0 27 x) i (Wk K i) (Tk K i) (bk K i) := by
      unfold Laid at hl ⊢
      simpa [wI_at] using hl
    refine c_M_owesNow (D := d' + 2) (by omega) hG hl2 hv.1.2.2.2.1.1 hv.1.2.2.2.2.1.1 ((e64 _).trans hv.2.1.2.2.1) hv.2.2.1 (dy := dyk K) ?_ (by omega) (L := lawL Ls x) ?_ (sl := slk K) ?_ (by omega) ?_
    · rw [e28, h28, hB1.1]
      exact a3
    · unfold LawM
      rw [e27]
      rcases hL with ⟨q1, q2⟩ | ⟨l, l', q1, q2, q3, q4⟩
      · exact Or.inl ⟨q1, q2⟩
      · exact Or.inr ⟨l, l', q1, q2, KLaw_eq q3 e64, q4⟩
    · rw [e64, hB1.1]
      exact a1
    · intro gi3 fr3
      simp only [b_M_brings_47, n32_add, ax_psh_none, ax_psh_some, true_and, and_true, and_false, false_and, not_true_eq_false, not_false_eq_true, true_imp_iff, false_imp_iff, imp_self, or_true, true_or, or_false, false_or, and_self, ite_true, ite_false, if_true, if_false]
      exact ih gi3 (Fr_trans fr (Fr_trans (Fr_owl (Fr_trans fr2 (Fr_wI (Fr_refl _ _) rfl))) (Fr_owt fr3)))
  · intro gi1 fr
    have hB1 := BK_q hB (qMod_ow fr) (GF_refl hG)
    have e796 : gi1 64 0 796 = n32 nt := by rw [hB1.1]; exact hB1.2.2.1.2.2.1
    rw [b_M_brings_24]
    simp (disch := omega) only [b_M_brings_29, b_M_brings_55, c_M_things _ _ _ _ hG, e796, n32_add, n32_mul, n32_lt, n32_le, n32_eq, n32_clamp, n32_inT, n32_div, n32_rem, n32_m1, n32_m1', n32_m1lt, n32_ltm1, n32_10, n32_01, Nat.not_lt_zero, Nat.lt_irrefl, Nat.mul_zero, Nat.zero_mul, Nat.zero_add, Nat.add_zero, Nat.reduceEqDiff, Nat.one_ne_zero, Nat.zero_ne_one, ax_psh_none, ax_psh_some, true_and, and_true, and_false, false_and, not_true_eq_false, not_false_eq_true, true_imp_iff, false_imp_iff, imp_self, or_true, true_or, or_false, false_or, and_self, ite_true, ite_false, if_true, if_false]
    exact hq gi1 fr
theorem c_M_brings_n (d : Nat) {gi : GI} {g : AG} {Q : Option AV → AH → Prop} (hG : GOK g) {m : Nat} {x : Int32} (e797 : gi 64 0 797 = n32 m) (hw : win x (-1) (n32 m - n32 1) = n32 0) : ax_call (d + 2) m_M_brings [.inr (.inr (some (12, 0))), .inl x] (gi, g) Q = Q (some (.inl (-1))) (gi, g) := by
  have c797 : (n32 797).toNatClampNeg = 797 := by decide
  rw [e_M_brings, b_M_brings_0, c797, e797]
  simp (disch := omega) only [b_M_brings_15, b_M_brings_18, c_M_lies, hw, G_0_0 hG, G_0_1 hG, G_0_2 hG, G_0_3 hG, G_0_7 hG, G_0_10 hG, G_0_12 hG, G_0_13 hG, G_0_14 hG, G_0_15 hG, G_0_16 hG, G_0_17 hG, G_1_0 hG, G_1_2 hG, G_1_5 hG, G_2_4 hG, G_2_5 hG, G_3_5 hG, G_3_6 hG, G_3_7 hG, G_3_8 hG, G_3_9 hG, G_5_0 hG, G_5_1 hG, G_6_0 hG, G_6_1 hG, G_6_2 hG, G_6_9 hG, G_6_10 hG, G_6_11 hG, G_6_12 hG, G_6_13 hG, G_7_0 hG, G_7_5 hG, G_8_8 hG, G_8_9 hG, G_9_8 hG, G_9_9 hG, G_10_7 hG, G_10_8 hG, G_10_9 hG, G_10_10 hG, G_10_11 hG, G_11_0 hG, G_12_2 hG, G_12_3 hG, G_12_4 hG, G_12_5 hG, G_12_7 hG, G_12_8 hG, G_12_9 hG, G_12_12 hG, G_12_13 hG, G_12_14 hG, G_12_22 hG, G_12_23 hG, G_12_29 hG, G_12_30 hG, G_12_31 hG, G_12_37 hG, G_12_38 hG, G_12_39 hG, G_12_40 hG, G_12_41 hG, G_12_43 hG, G_12_46 hG, G_12_47 hG, G_12_48 hG, G_25 hG, G_26 hG, G_47 hG, G_58 hG, n32_add, n32_mul, n32_lt, n32_le, n32_eq, n32_clamp, n32_inT, n32_div, n32_rem, n32_m1, n32_m1', n32_m1lt, n32_ltm1, n32_10, n32_01, Nat.not_lt_zero, Nat.lt_irrefl, Nat.mul_zero, Nat.zero_mul, Nat.zero_add, Nat.add_zero, Nat.reduceEqDiff, Nat.one_ne_zero, Nat.zero_ne_one, ax_psh_none, ax_psh_some, true_and, and_true, and_false, false_and, not_true_eq_false, not_false_eq_true, true_imp_iff, false_imp_iff, imp_self, or_true, true_or, or_false, false_or, and_self, ite_true, ite_false, if_true, if_false]
/-- the law that brings most -/
def drF (f : Nat → Nat) : Nat → Int32 × Int32
  | 0 => (-1, -1)
  | i + 1 => if (drF f i).2 < n32 (f i) then (n32 i, n32 (f i)) else drF f i
theorem c_M_dearest {D nt m : Nat} {gi : GI} {g : AG} {Ls : Nat → List PC} {K : Nat → Int32} {Q : Option AV → AH → Prop} (hD : 49 ≤ D) (hB : BK gi g Ls nt m K)
    (hq : ∀ gi', Fr owMod gi gi' → Q (some (.inl (drF (fun l => sumN (owK K (lawL Ls (n32 l)) (dyk K) (bk K)) nt) m).1)) (gi', g)) :
    ax_call D m_M_dearest [.inr (.inr (some (12, 0)))] (gi, g) Q := by
  obtain ⟨d, rfl⟩ : ∃ d2, D = d2 + 2 := ⟨D - 2, by omega⟩
  have hG := hB.2.1
  have m6 := hB.2.2.1.2.1
  have c797 : (n32 797).toNatClampNeg = 797 := by decide
  have key := loop_up (n := m) (P := fun i => ∀ (gi1 : GI) o4, Fr owMod gi gi1 → Runs (d + 1) (m_M_dearest, 6, [some (.inr (.inr (some (12, 0)))), some (.inl (drF (fun l => sumN (owK K (lawL Ls (n32 l)) (dyk K) (bk K)) nt) i).1), some (.inl (drF (fun l => sumN (owK K (lawL Ls (n32 l)) (dyk K) (bk K)) nt) i).2), some (.inl (n32 i)), o4], []) (gi1, g) Q) ?_ ?_
  · rw [e_M_dearest, b_M_dearest_0]
    exact key 0 (Nat.zero_le _) gi _ (Fr_refl _ _)
  · intro i hi ih gi1 o4 fr
    have hB1 := BK_q hB (qMod_ow fr) (GF_refl hG)
    have e797 : gi1 64 0 797 = n32 m := by rw [hB1.1]; exact hB1.2.2.1.2.2.2.1
    rw [b_M_dearest_6, c797, e797]
    simp (disch := omega) only [b_M_dearest_18, G_0_0 hG, G_0_1 hG, G_0_2 hG, G_0_3 hG, G_0_7 hG, G_0_10 hG, G_0_12 hG, G_0_13 hG, G_0_14 hG, G_0_15 hG, G_0_16 hG, G_0_17 hG, G_1_0 hG, G_1_2 hG, G_1_5 hG, G_2_4 hG, G_2_5 hG, G_3_5 hG, G_3_6 hG, G_3_7 hG, G_3_8 hG, G_3_9 hG, G_5_0 hG, G_5_1 hG, G_6_0 hG, G_6_1 hG, G_6_2 hG, G_6_9 hG, G_6_10 hG, G_6_11 hG, G_6_12 hG, G_6_13 hG, G_7_0 hG, G_7_5 hG, G_8_8 hG, G_8_9 hG, G_9_8 hG, G_9_9 hG, G_10_7 hG, G_10_8 hG, G_10_9 hG, G_10_10 hG, G_10_11 hG, G_11_0 hG, G_12_2 hG, G_12_3 hG, G_12_4 hG, G_12_5 hG, G_12_7 hG, G_12_8 hG, G_12_9 hG, G_12_12 hG, G_12_13 hG, G_12_14 hG, G_12_22 hG, G_12_23 hG, G_12_29 hG, G_12_30 hG, G_12_31 hG, G_12_37 hG, G_12_38 hG, G_12_39 hG, G_12_40 hG, G_12_41 hG, G_12_43 hG, G_12_46 hG, G_12_47 hG, G_12_48 hG, G_25 hG, G_26 hG, G_47 hG, G_58 hG, hi, n32_add, n32_mul, n32_lt, n32_le, n32_eq, n32_clamp, n32_inT, n32_div, n32_rem, n32_m1, n32_m1', n32_m1lt, n32_ltm1, n32_10, n32_01, Nat.not_lt_zero, Nat.lt_irrefl, Nat.mul_zero, Nat.zero_mul, Nat.zero_add, Nat.add_zero, Nat.reduceEqDiff, Nat.one_ne_zero, Nat.zero_ne_one, ax_psh_none, ax_psh_some, true_and, and_true, and_false, false_and, not_true_eq_false, not_false_eq_true, true_imp_iff, false_imp_iff, imp_self, or_true, true_or, or_false, false_or, and_self, ite_true, ite_false, if_true, if_false]
    have hwi : win (n32 i) (-1) (n32 m - n32 1) = n32 1 := by
      rcases win_law (x := n32 i) m6 with h | ⟨-, -, h⟩
      · exact h.1
      · rw [win_syes hi (by omega)] at h
        exact absurd h (by decide)
    refine c_M_brings (D := d + 1) (by omega) (Or.inr ⟨i, hi, rfl⟩) hwi hB1 ?_
    intro gi2 fr2
    simp only [b_M_dearest_23, ax_psh_none, ax_psh_some, true_and, and_true, and_false, false_and, not_true_eq_false, not_false_eq_true, true_imp_iff, false_imp_iff, imp_self, or_true, true_or, or_false, false_or, and_self, ite_true, ite_false, if_true, if_false]
    refine ⟨fun z => ?_, fun z => ?_⟩
    · rw [b_M_dearest_34, b_M_dearest_39, n32_add]
      have := ih gi2 (some (.inl (n32 (sumN (owK K (lawL Ls (n32 i)) (dyk K) (bk K)) nt)))) (Fr_trans fr fr2)
      rw [drF, if_pos z] at this
      exact this
    · rw [b_M_dearest_31, b_M_dearest_39, n32_add]
      have := ih gi2 (some (.inl (n32 (sumN (owK K (lawL Ls (n32 i)) (dyk K) (bk K)) nt)))) (Fr_trans fr fr2)
      rw [drF, if_neg z] at this
      exact this
  · intro gi1 o4 fr
    have hB1 := BK_q hB (qMod_ow fr) (GF_refl hG)
    have e797 : gi1 64 0 797 = n32 m := by rw [hB1.1]; exact hB1.2.2.1.2.2.2.1
    rw [b_M_dearest_6, c797, e797]
    simp (disch := omega) only [b_M_dearest_45, G_0_0 hG, G_0_1 hG, G_0_2 hG, G_0_3 hG, G_0_7 hG, G_0_10 hG, G_0_12 hG, G_0_13 hG, G_0_14 hG, G_0_15 hG, G_0_16 hG, G_0_17 hG, G_1_0 hG, G_1_2 hG, G_1_5 hG, G_2_4 hG, G_2_5 hG, G_3_5 hG, G_3_6 hG, G_3_7 hG, G_3_8 hG, G_3_9 hG, G_5_0 hG, G_5_1 hG, G_6_0 hG, G_6_1 hG, G_6_2 hG, G_6_9 hG, G_6_10 hG, G_6_11 hG, G_6_12 hG, G_6_13 hG, G_7_0 hG, G_7_5 hG, G_8_8 hG, G_8_9 hG, G_9_8 hG, G_9_9 hG, G_10_7 hG, G_10_8 hG, G_10_9 hG, G_10_10 hG, G_10_11 hG, G_11_0 hG, G_12_2 hG, G_12_3 hG, G_12_4 hG, G_12_5 hG, G_12_7 hG, G_12_8 hG, G_12_9 hG, G_12_12 hG, G_12_13 hG, G_12_14 hG, G_12_22 hG, G_12_23 hG, G_12_29 hG, G_12_30 hG, G_12_31 hG, G_12_37 hG, G_12_38 hG, G_12_39 hG, G_12_40 hG, G_12_41 hG, G_12_43 hG, G_12_46 hG, G_12_47 hG, G_12_48 hG, G_25 hG, G_26 hG, G_47 hG, G_58 hG, n32_add, n32_mul, n32_lt, n32_le, n32_eq, n32_clamp, n32_inT, n32_div, n32_rem, n32_m1, n32_m1', n32_m1lt, n32_ltm1, n32_10, n32_01, Nat.not_lt_zero, Nat.lt_irrefl, Nat.mul_zero, Nat.zero_mul, Nat.zero_add, Nat.add_zero, Nat.reduceEqDiff, Nat.one_ne_zero, Nat.zero_ne_one, ax_psh_none, ax_psh_some, true_and, and_true, and_false, false_and, not_true_eq_false, not_false_eq_true, true_imp_iff, false_imp_iff, imp_self, or_true, true_or, or_false, false_or, and_self, ite_true, ite_false, if_true, if_false]
    exact hq gi1 fr
