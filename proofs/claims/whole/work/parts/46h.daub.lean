/-! daub -/
def dr (s : Nat) : Nat := (s * 1103 + 12345) % 1000003
theorem dr_lt (s : Nat) : dr s < 1000003 := Nat.mod_lt _ (by decide)
abbrev DS : Type := Nat × (Nat → Nat → Nat)
/-- a day's draws, of the first t things -/
def daT (K : Nat → Int32) (x : DS) : Nat → DS
  | 0 => x
  | t + 1 => (dr (dr (daT K x t).1), fun u => if u = t then updB ((daT K x t).2 t) (dr (daT K x t).1 % (Wk K t * Tk K t)) (dr (dr (daT K x t).1) % 10) else (daT K x t).2 u)
def daD (K : Nat → Int32) (nt : Nat) (x : DS) : Nat → DS
  | 0 => x
  | i + 1 => daT K (daD K nt x i) nt
def daOK (K : Nat → Int32) (nt : Nat) (x : DS) : Prop := x.1 < 1000003 ∧ ∀ u, u < nt → BrdOK (Wk K u) (Tk K u) (x.2 u)
theorem daT_ok {K : Nat → Int32} {nt : Nat} {x : DS} (h : daOK K nt x) : ∀ t, daOK K nt (daT K x t)
  | 0 => h
  | t + 1 => by
    obtain ⟨h1, h2⟩ := daT_ok h t
    refine ⟨dr_lt _, fun u hu c hc => ?_⟩
    show (if u = t then _ else (daT K x t).2 u) c < 10
    by_cases z : u = t
    · rw [if_pos z]
      unfold updB
      split
      · exact Nat.mod_lt _ (by decide)
      · rw [z] at hc hu
        exact h2 t hu c hc
    · rw [if_neg z]
      exact h2 u hu c hc
theorem daD_ok {K : Nat → Int32} {nt : Nat} {x : DS} (h : daOK K nt x) : ∀ i, daOK K nt (daD K nt x i)
  | 0 => h
  | i + 1 => daT_ok (daD_ok h i) nt
def owD (K : Nat → Int32) (L : Option (List PC)) (nt : Nat) (x : DS) (i : Nat) : Nat := sumN (owK K L (dyk K + i) (daD K nt x (i + 1)).2) nt
theorem n32_rem2 (a b : Nat) : n32 a - n32 (a / b * b) = n32 (a % b) := by
  rw [n32_sub (Nat.div_mul_le_self a b)]
  congr 1
  have := Nat.div_add_mod a b
  rw [Nat.mul_comm] at this
  omega
theorem c_nextDraw (d : Nat) (gi : GI) (g : AG) (Q : Option AV → AH → Prop) {s : Nat} (hs : s < 1000003) : ax_call (d + 1) m_S_nextDraw [.inl (n32 s)] (gi, g) Q = Q (some (.inl (n32 (dr s)))) (gi, g) := by
  have z : (¬ n32 1000003 = n32 0) = True := eq_true (by decide)
  rw [e_S_nextDraw, b_S_nextDraw_0, n32_mul, n32_add, n32_rem (by omega) (by omega), z, true_and]
  rfl
theorem lo_divg {a b : Int} (ha : Bg a) (hb : Bg b) : lv a / lv b = lv (a.tdiv b) := by
  unfold Bg at ha hb
  have e1 : Int64.minValue.toInt = -9223372036854775808 := by decide
  have e2 : Int64.maxValue.toInt = 9223372036854775807 := by decide
  exact (Int64.ofInt_tdiv (by omega) (by omega) (by omega) (by omega)).symm
theorem drL {s : Nat} (hs : s < 1000003) : ((((n32 1103).toInt64 * (n32 s).toInt64) + (n32 12345).toInt64) - (((n32 1103).toInt64 * (n32 s).toInt64) + (n32 12345).toInt64) / (n32 1000003).toInt64 * (n32 1000003).toInt64 : Int64).toInt32 = n32 (dr s) := by
  rw [lo_n (by omega), lo_n (by omega), lo_n (by omega), lo_n (by omega), lo_mul, lo_add]
  have e : ((1103 : Nat) : Int) * (s : Int) + ((12345 : Nat) : Int) = ((s * 1103 + 12345 : Nat) : Int) := by omega
  rw [e, lo_divg (by unfold Bg; omega) (by unfold Bg; omega), lo_mul, lo_sub, lo_32, ← Int.ofNat_tdiv]
  have e2 : ((s * 1103 + 12345 : Nat) : Int) - (((s * 1103 + 12345) / 1000003 : Nat) : Int) * ((1000003 : Nat) : Int) = ((dr s : Nat) : Int) := by
    unfold dr
    omega
  rw [e2, iv_n]
theorem c_M_draws (d : Nat) (gi : GI) (g : AG) (Q : Option AV → AH → Prop) {s k : Nat} (hs : s < 1000003) (h50 : gi 12 0 50 = n32 s) (hk : 1 ≤ k ∧ k ≤ 64) : ax_call (d + 1) m_M_draws [.inr (.inr (some (12, 0))), .inl (n32 k)] (gi, g) Q = Q (some (.inl (n32 (dr s % k)))) (ax_wI gi 12 0 50 (n32 (dr s)), g) := by
  have z1 : (¬ ((n32 1000003).toInt64 : Int64) = 0) = True := eq_true (by decide)
  have z2 : (¬ n32 k = n32 0) = True := eq_true (by rw [n32_eq (by omega) (by omega)]; omega)
  have := dr_lt s
  rw [e_M_draws, b_M_draws_0, h50, drL hs, wI_self, n32_rem (by omega) (by omega), z1, z2, true_and, true_and]
/-! frames -/
def dMod (s j : Nat) : Bool := qMod s j || s == 24 || s == 85 || (s == 12 && j == 49)
theorem d_q {gi gi' : GI} (h : Fr qMod gi gi') : Fr dMod gi gi' := Fr_mono h (fun s j q => by
  unfold dMod at q
  simp only [Bool.or_eq_false_iff] at q
  exact q.1.1.1)
theorem BK_d {gi gi' : GI} {g g' : AG} {Ls : Nat → List PC} {nt m : Nat} {K : Nat → Int32} (h : BK gi g Ls nt m K) (hf : Fr dMod gi gi') (hg : GF g g') : BK gi' g' Ls nt m K := by
  obtain ⟨rfl, hG, hN, hT, hL⟩ := h
  refine ⟨funext (fun j => hf 64 0 j rfl), hg.2.1, BooksN_of hN (fun j _ _ => rfl) (fun s j q => ?_), ThingsR_of hT hN.1 (fun j _ => rfl) (fun s a j q => ?_), LawsR_of hL hN.2.1 (fun j _ _ => rfl) (fun s a j q => ?_) hg⟩
  · rcases q with rfl | rfl <;> exact hf _ _ _ rfl
  · rcases q with rfl | rfl | rfl <;> exact hf _ _ _ rfl
  · rcases q with rfl | rfl | rfl | rfl <;> exact hf _ _ _ rfl
theorem PI_Ps {gi gi' : GI} {t : Nat} (h : ∀ u, u < 6 → PaperInv gi u) (ho : OnlyP t gi gi') (hp : PaperInv gi' t) : ∀ u, u < 6 → PaperInv gi' u := PI_P h ho hp
/-! the class -/
theorem da_ta {d nt m lq : Nat} {gi : GI} {g : AG} {Ls : Nat → List PC} {K : Nat → Int32} {Q : Option AV → AH → Prop} {x : DS} (hB : BK gi g Ls nt m K) (hx : daOK K nt x) (hp : ∀ t, t < nt → Pap gi t (Wk K t) (Tk K t) (Ok K t) (x.2 t)) (hpi : ∀ t, t < 6 → PaperInv gi t) (o1 o8 : Option AV) (n sm ii : Int32)
    (hq : ∀ gi' o7 o8, OnlyPs nt gi gi' → (∀ t, t < nt → Pap gi' t (Wk K t) (Tk K t) (Ok K t) ((daT K x nt).2 t)) → (∀ t, t < 6 → PaperInv gi' t) → Runs (d + 6) (m_S_daub, 132, [some (.inr (.inr (some (0, 0)))), o1, some (.inl n), some (.inr (.inr none)), some (.inl (n32 (daT K x nt).1)), some (.inl sm), some (.inl ii), o7, o8], []) (gi', g) Q) :
    Runs (d + 6) (m_S_daub, 64, [some (.inr (.inr (some (0, 0)))), o1, some (.inl n), some (.inr (.inr none)), some (.inl (n32 x.1)), some (.inl sm), some (.inl ii), some (.inl (n32 0)), o8], []) (gi, g) Q := by
  have hG := hB.2.1
  have n6 := hB.2.2.1.1
  have b1 := hB.2.2.1.2.2.2.2.1
  have key := loop_up (n := nt) (P := fun t => ∀ (gi1 : GI) o8, OnlyPs nt gi gi1 → (∀ u, u < nt → Pap gi1 u (Wk K u) (Tk K u) (Ok K u) ((daT K x t).2 u)) → (∀ u, u < 6 → PaperInv gi1 u) → Runs (d + 6) (m_S_daub, 64, [some (.inr (.inr (some (0, 0)))), o1, some (.inl n), some (.inr (.inr none)), some (.inl (n32 (daT K x t).1)), some (.inl sm), some (.inl ii), some (.inl (n32 t)), o8], []) (gi1, g) Q) ?_ ?_
  · exact key 0 (Nat.zero_le _) gi o8 (fun _ _ _ _ _ _ => rfl) hp hpi
  · intro t ht ih gi1 o8 ho hp1 hpi1
    have e1 : gi1 1 0 1 = n32 nt := (ho 1 0 1 (by omega) (by omega) (by omega)).trans b1
    have hP := hp1 t ht
    have hW := hP.1.2.2.2.1
    have hT := hP.1.2.2.2.2.1
    have h64 := wt64 hW.2 hT.2
    have hpos : 1 ≤ Wk K t * Tk K t := Nat.mul_pos (by omega) (by omega)
    have hz : ¬ Wk K t * Tk K t = 0 := by omega
    have hmx : (if 1 < Wk K t * Tk K t then n32 (Wk K t * Tk K t) else n32 1) = n32 (Wk K t * Tk K t) := by
      by_cases z : 1 < Wk K t * Tk K t
      · rw [if_pos z]
      · rw [if_neg z]
        congr 1
        omega
    have hs := (daT_ok hx t).1
    have h1 := dr_lt (daT K x t).1
    have h2 := dr_lt (dr (daT K x t).1)
    have hcell : dr (daT K x t).1 % (Wk K t * Tk K t) < Wk K t * Tk K t := Nat.mod_lt _ (by omega)
    have hpart : dr (dr (daT K x t).1) % 10 < 10 := Nat.mod_lt _ (by decide)
    rw [b_S_daub_64a]
    simp (disch := omega) only [b_S_daub_76a, b_S_daub_81a, b_S_daub_96a, b_S_daub_107a, e1, ht, c_nextDraw _ _ _ _ hs, c_nextDraw _ _ _ _ h1, c_Paper_area _ _ _ _ hP.1.1 hP.1.2.1, hmx, hz, n32_rem2, G_0_0 hG, G_0_1 hG, G_0_2 hG, G_0_3 hG, G_0_7 hG, G_0_10 hG, G_0_12 hG, G_0_13 hG, G_0_14 hG, G_0_15 hG, G_0_16 hG, G_0_17 hG, G_1_0 hG, G_1_2 hG, G_1_5 hG, G_2_4 hG, G_2_5 hG, G_3_5 hG, G_3_6 hG, G_3_7 hG, G_3_8 hG, G_3_9 hG, G_5_0 hG, G_5_1 hG, G_6_0 hG, G_6_1 hG, G_6_2 hG, G_6_9 hG, G_6_10 hG, G_6_11 hG, G_6_12 hG, G_6_13 hG, G_7_0 hG, G_7_5 hG, G_8_8 hG, G_8_9 hG, G_9_8 hG, G_9_9 hG, G_10_7 hG, G_10_8 hG, G_10_9 hG, G_10_10 hG, G_10_11 hG, G_11_0 hG, G_12_2 hG, G_12_3 hG, G_12_4 hG, G_12_5 hG, G_12_7 hG, G_12_8 hG, G_12_9 hG, G_12_12 hG, G_12_13 hG, G_12_14 hG, G_12_22 hG, G_12_23 hG, G_12_29 hG, G_12_30 hG, G_12_31 hG, G_12_37 hG, G_12_38 hG, G_12_39 hG, G_12_40 hG, G_12_41 hG, G_12_43 hG, G_12_46 hG, G_12_47 hG, G_12_48 hG, G_25 hG, G_26 hG, G_47 hG, G_58 hG, n32_add, n32_mul, n32_lt, n32_le, n32_eq, n32_clamp, n32_inT, n32_div, n32_rem, n32_m1, n32_m1', n32_m1lt, n32_ltm1, n32_10, n32_01, Nat.not_lt_zero, Nat.lt_irrefl, Nat.mul_zero, Nat.zero_mul, Nat.zero_add, Nat.add_zero, Nat.reduceEqDiff, Nat.one_ne_zero, Nat.zero_ne_one, ax_psh_none, ax_psh_some, true_and, and_true, and_false, false_and, not_true_eq_false, not_false_eq_true, true_imp_iff, false_imp_iff, imp_self, or_true, true_or, or_false, false_or, and_self, ite_true, ite_false, if_true, if_false]
    refine c_put (d := d + 4) hG (by omega) hP hcell hpart ?_
    intro gi2 ho2 hp2
    simp only [b_S_daub_126a, n32_add, ax_psh_none, ax_psh_some, true_and, and_true, and_false, false_and, not_true_eq_false, not_false_eq_true, true_imp_iff, false_imp_iff, imp_self, or_true, true_or, or_false, false_or, and_self, ite_true, ite_false, if_true, if_false]
    refine ih gi2 _ (fun s a j q1 q2 q3 => (OnlyP_s ho2 ht s a j q1 q2 q3).trans (ho s a j q1 q2 q3)) (fun u hu => ?_) (PI_P hpi1 ho2 (Pap_inv hp2))
    show Pap gi2 u (Wk K u) (Tk K u) (Ok K u) (if u = t then _ else (daT K x t).2 u)
    by_cases z : u = t
    · rw [if_pos z, z]
      exact hp2
    · rw [if_neg z]
      exact Pap_P (hp1 u hu) ho2 z
  · intro gi1 o8 ho hp1 hpi1
    have e1 : gi1 1 0 1 = n32 nt := (ho 1 0 1 (by omega) (by omega) (by omega)).trans b1
    rw [b_S_daub_64a]
    simp (disch := omega) only [e1, G_0_0 hG, G_0_1 hG, G_0_2 hG, G_0_3 hG, G_0_7 hG, G_0_10 hG, G_0_12 hG, G_0_13 hG, G_0_14 hG, G_0_15 hG, G_0_16 hG, G_0_17 hG, G_1_0 hG, G_1_2 hG, G_1_5 hG, G_2_4 hG, G_2_5 hG, G_3_5 hG, G_3_6 hG, G_3_7 hG, G_3_8 hG, G_3_9 hG, G_5_0 hG, G_5_1 hG, G_6_0 hG, G_6_1 hG, G_6_2 hG, G_6_9 hG, G_6_10 hG, G_6_11 hG, G_6_12 hG, G_6_13 hG, G_7_0 hG, G_7_5 hG, G_8_8 hG, G_8_9 hG, G_9_8 hG, G_9_9 hG, G_10_7 hG, G_10_8 hG, G_10_9 hG, G_10_10 hG, G_10_11 hG, G_11_0 hG, G_12_2 hG, G_12_3 hG, G_12_4 hG, G_12_5 hG, G_12_7 hG, G_12_8 hG, G_12_9 hG, G_12_12 hG, G_12_13 hG, G_12_14 hG, G_12_22 hG, G_12_23 hG, G_12_29 hG, G_12_30 hG, G_12_31 hG, G_12_37 hG, G_12_38 hG, G_12_39 hG, G_12_40 hG, G_12_41 hG, G_12_43 hG, G_12_46 hG, G_12_47 hG, G_12_48 hG, G_25 hG, G_26 hG, G_47 hG, G_58 hG, n32_add, n32_mul, n32_lt, n32_le, n32_eq, n32_clamp, n32_inT, n32_div, n32_rem, n32_m1, n32_m1', n32_m1lt, n32_ltm1, n32_10, n32_01, Nat.not_lt_zero, Nat.lt_irrefl, Nat.mul_zero, Nat.zero_mul, Nat.zero_add, Nat.add_zero, Nat.reduceEqDiff, Nat.one_ne_zero, Nat.zero_ne_one, ax_psh_none, ax_psh_some, true_and, and_true, and_false, false_and, not_true_eq_false, not_false_eq_true, true_imp_iff, false_imp_iff, imp_self, or_true, true_or, or_false, false_or, and_self, ite_true, ite_false, if_true, if_false]
    exact hq gi1 _ o8 ho hp1 hpi1
theorem da_da {d nt m s n lq : Nat} {gi : GI} {g : AG} {Ls : Nat → List PC} {K : Nat → Int32} {L : Option (List PC)} {Q : Option AV → AH → Prop} {x : DS} (hB : BK gi g Ls nt m K) (hx : daOK K nt x) (hp : ∀ t, t < nt → Pap gi t (Wk K t) (Tk K t) (Ok K t) (x.2 t)) (hpi : ∀ t, t < 6 → PaperInv gi t) (hL : LawRef gi g none L) (hn : n ≤ 40) (hS : Stamps gi s) (hs : s + 1000 < 100000000) (o1 o7 o8 : Option AV)
    (hq : ∀ gi' g', Fr dMod gi gi' → GF g g' → (∀ t, t < 6 → PaperInv gi' t) → Stamps gi' (s + nt * n) → (∀ u, u < n → gi' 24 0 u = n32 (owD K L nt x u)) → Q (some (.inl (n32 (sumN (owD K L nt x) n)))) (donC (ax_wI gi' 0 0 11 (n32 n)), g')) :
    Runs (d + 6) (m_S_daub, 55, [some (.inr (.inr (some (0, 0)))), o1, some (.inl (n32 n)), some (.inr (.inr none)), some (.inl (n32 x.1)), some (.inl (n32 0)), some (.inl (n32 0)), o7, o8], []) (gi, g) Q := by
  have n6 := hB.2.2.1.1
  have c1 : (n32 1).toNatClampNeg = 1 := by decide
  have key := loop_up (n := n) (P := fun i => ∀ (gi1 : GI) (g1 : AG) o1 o7 o8, Fr dMod gi gi1 → GF g g1 → (∀ t, t < nt → Pap gi1 t (Wk K t) (Tk K t) (Ok K t) ((daD K nt x i).2 t)) → (∀ t, t < 6 → PaperInv gi1 t) → Stamps gi1 (s + nt * i) → (∀ u, u < i → gi1 24 0 u = n32 (owD K L nt x u)) → Runs (d + 6) (m_S_daub, 55, [some (.inr (.inr (some (0, 0)))), o1, some (.inl (n32 n)), some (.inr (.inr none)), some (.inl (n32 (daD K nt x i).1)), some (.inl (n32 (sumN (owD K L nt x) i))), some (.inl (n32 i)), o7, o8], []) (gi1, g1) Q) ?_ ?_
  · exact key 0 (Nat.zero_le _) gi g o1 o7 o8 (Fr_refl _ _) (GF_refl hB.2.1) hp hpi hS (fun u hu => absurd hu (Nat.not_lt_zero u))
  · intro i hi ih gi1 g1 o1 o7 o8 fr gf hp1 hpi1 hS1 h24
    have hB1 := BK_d hB fr gf
    have hnt : nt * i ≤ 6 * 40 := Nat.mul_le_mul n6 (by omega)
    rw [b_S_daub_55a]
    simp (disch := omega) only [b_S_daub_61a, hi, n32_add, n32_mul, n32_lt, n32_le, n32_eq, n32_clamp, n32_inT, n32_div, n32_rem, n32_m1, n32_m1', n32_m1lt, n32_ltm1, n32_10, n32_01, Nat.not_lt_zero, Nat.lt_irrefl, Nat.mul_zero, Nat.zero_mul, Nat.zero_add, Nat.add_zero, Nat.reduceEqDiff, Nat.one_ne_zero, Nat.zero_ne_one, ax_psh_none, ax_psh_some, true_and, and_true, and_false, false_and, not_true_eq_false, not_false_eq_true, true_imp_iff, false_imp_iff, imp_self, or_true, true_or, or_false, false_or, and_self, ite_true, ite_false, if_true, if_false]
    refine da_ta (lq := lq) hB1 (daD_ok hx i) hp1 hpi1 _ _ _ _ _ ?_
    intro gi2 o7' o8' ho hp2 hpi2
    have fr2 : Fr dMod gi gi2 := Fr_trans fr (d_q (qMod_Ps ho))
    have hB2 := BK_d hB fr2 gf
    have hG := gf.2.1
    obtain ⟨-, ⟨a3, a4⟩, -, -⟩ := terms_k hB2.2.2.1.2.2.2.2.2.2.2.2.1
    have t1 : gi2 28 0 1 = n32 (dyk K) := (hB2.2.2.1.2.2.2.2.2.2.2.2.2 1 (by omega)).trans a3
    have hL2 : LawRef gi2 g1 none L := LawRef_fr hL (fun s a j q => by rcases q with rfl | rfl | rfl | rfl <;> exact fr2 _ _ _ rfl) gf
    simp (disch := omega) only [b_S_daub_132a, t1, c1, G_0_0 hG, G_0_1 hG, G_0_2 hG, G_0_3 hG, G_0_7 hG, G_0_10 hG, G_0_12 hG, G_0_13 hG, G_0_14 hG, G_0_15 hG, G_0_16 hG, G_0_17 hG, G_1_0 hG, G_1_2 hG, G_1_5 hG, G_2_4 hG, G_2_5 hG, G_3_5 hG, G_3_6 hG, G_3_7 hG, G_3_8 hG, G_3_9 hG, G_5_0 hG, G_5_1 hG, G_6_0 hG, G_6_1 hG, G_6_2 hG, G_6_9 hG, G_6_10 hG, G_6_11 hG, G_6_12 hG, G_6_13 hG, G_7_0 hG, G_7_5 hG, G_8_8 hG, G_8_9 hG, G_9_8 hG, G_9_9 hG, G_10_7 hG, G_10_8 hG, G_10_9 hG, G_10_10 hG, G_10_11 hG, G_11_0 hG, G_12_2 hG, G_12_3 hG, G_12_4 hG, G_12_5 hG, G_12_7 hG, G_12_8 hG, G_12_9 hG, G_12_12 hG, G_12_13 hG, G_12_14 hG, G_12_22 hG, G_12_23 hG, G_12_29 hG, G_12_30 hG, G_12_31 hG, G_12_37 hG, G_12_38 hG, G_12_39 hG, G_12_40 hG, G_12_41 hG, G_12_43 hG, G_12_46 hG, G_12_47 hG, G_12_48 hG, G_25 hG, G_26 hG, G_47 hG, G_58 hG, n32_add, n32_mul, n32_lt, n32_le, n32_eq, n32_clamp, n32_inT, n32_div, n32_rem, n32_m1, n32_m1', n32_m1lt, n32_ltm1, n32_10, n32_01, Nat.not_lt_zero, Nat.lt_irrefl, Nat.mul_zero, Nat.zero_mul, Nat.zero_add, Nat.add_zero, Nat.reduceEqDiff, Nat.one_ne_zero, Nat.zero_ne_one, ax_psh_none, ax_psh_some, true_and, and_true, and_false, false_and, not_true_eq_false, not_false_eq_true, true_imp_iff, false_imp_iff, imp_self, or_true, true_or, or_false, false_or, and_self, ite_true, ite_false, if_true, if_false]
    refine c_owedByAll (d := d) (bb := (daD K nt x (i + 1)).2) hB2 hp2 hL2 (by omega) (St_q hS1 ho) (by omega) ?_
    intro gi3 g3 fr3 gf3 hS3
    have hG := gf3.2.1
    simp (disch := omega) only [b_S_daub_155a, wI_self, G_0_0 hG, G_0_1 hG, G_0_2 hG, G_0_3 hG, G_0_7 hG, G_0_10 hG, G_0_12 hG, G_0_13 hG, G_0_14 hG, G_0_15 hG, G_0_16 hG, G_0_17 hG, G_1_0 hG, G_1_2 hG, G_1_5 hG, G_2_4 hG, G_2_5 hG, G_3_5 hG, G_3_6 hG, G_3_7 hG, G_3_8 hG, G_3_9 hG, G_5_0 hG, G_5_1 hG, G_6_0 hG, G_6_1 hG, G_6_2 hG, G_6_9 hG, G_6_10 hG, G_6_11 hG, G_6_12 hG, G_6_13 hG, G_7_0 hG, G_7_5 hG, G_8_8 hG, G_8_9 hG, G_9_8 hG, G_9_9 hG, G_10_7 hG, G_10_8 hG, G_10_9 hG, G_10_10 hG, G_10_11 hG, G_11_0 hG, G_12_2 hG, G_12_3 hG, G_12_4 hG, G_12_5 hG, G_12_7 hG, G_12_8 hG, G_12_9 hG, G_12_12 hG, G_12_13 hG, G_12_14 hG, G_12_22 hG, G_12_23 hG, G_12_29 hG, G_12_30 hG, G_12_31 hG, G_12_37 hG, G_12_38 hG, G_12_39 hG, G_12_40 hG, G_12_41 hG, G_12_43 hG, G_12_46 hG, G_12_47 hG, G_12_48 hG, G_25 hG, G_26 hG, G_47 hG, G_58 hG, n32_add, n32_mul, n32_lt, n32_le, n32_eq, n32_clamp, n32_inT, n32_div, n32_rem, n32_m1, n32_m1', n32_m1lt, n32_ltm1, n32_10, n32_01, Nat.not_lt_zero, Nat.lt_irrefl, Nat.mul_zero, Nat.zero_mul, Nat.zero_add, Nat.add_zero, Nat.reduceEqDiff, Nat.one_ne_zero, Nat.zero_ne_one, ax_psh_none, ax_psh_some, true_and, and_true, and_false, false_and, not_true_eq_false, not_false_eq_true, true_imp_iff, false_imp_iff, imp_self, or_true, true_or, or_false, false_or, and_self, ite_true, ite_false, if_true, if_false]
    have := ih (ax_wI gi3 24 0 i (n32 (owD K L nt x i))) g3 o1 o7' o8' ?_ (GF_trans gf gf3) ?_ ?_ ?_ ?_
    · exact this
    · exact Fr_wI (Fr_trans fr2 (d_q (q_co fr3))) rfl
    · intro t ht
      have hP := Pap_co (hp2 t ht) fr3
      obtain ⟨⟨p0, p1, p4, pW, pT, pw⟩, h2, h3, h54, hb, h55, h56⟩ := hP
      exact ⟨⟨(wI_ne (by decide) _ _ _ _ _).trans p0, (wI_ne (by decide) _ _ _ _ _).trans p1, (wI_ne (by decide) _ _ _ _ _).trans p4, pW, pT, fun f hf c hc => (wI_ne (by decide) _ _ _ _ _).trans (pw f hf c hc)⟩, (wI_ne (by decide) _ _ _ _ _).trans h2, (wI_ne (by decide) _ _ _ _ _).trans h3, fun c hc => (wI_ne (by decide) _ _ _ _ _).trans (h54 c hc), hb, fun l hl => (wI_ne (by decide) _ _ _ _ _).trans (h55 l hl), fun p hp => (wI_ne (by decide) _ _ _ _ _).trans (h56 p hp)⟩
    · intro t ht
      exact PaperInv_of (PI_co hpi2 fr3 t ht) (fun j => wI_ne (by decide) _ _ _ _ _) (fun a j => wI_ne (by decide) _ _ _ _ _)
    · rw [Nat.mul_succ, ← Nat.add_assoc]
      exact Stamps_of hS3 (wI_ne (by decide) _ _ _ _ _) (fun j => wI_ne (by decide) _ _ _ _ _)
    · intro u hu
      rw [wI_at]
      by_cases z : u = i
      · rw [if_pos ⟨rfl, rfl, z⟩, z]
      · rw [if_neg (by omega), fr3 24 0 u rfl, ho 24 0 u (by omega) (by omega) (by omega)]
        exact h24 u (by omega)
  · intro gi1 g1 o1 o7 o8 fr gf hp1 hpi1 hS1 h24
    rw [b_S_daub_55a]
    simp (disch := omega) only [b_S_daub_174, b_S_daub_185, c_S_done, n32_add, n32_mul, n32_lt, n32_le, n32_eq, n32_clamp, n32_inT, n32_div, n32_rem, n32_m1, n32_m1', n32_m1lt, n32_ltm1, n32_10, n32_01, Nat.not_lt_zero, Nat.lt_irrefl, Nat.mul_zero, Nat.zero_mul, Nat.zero_add, Nat.add_zero, Nat.reduceEqDiff, Nat.one_ne_zero, Nat.zero_ne_one, ax_psh_none, ax_psh_some, true_and, and_true, and_false, false_and, not_true_eq_false, not_false_eq_true, true_imp_iff, false_imp_iff, imp_self, or_true, true_or, or_false, false_or, and_self, ite_true, ite_false, if_true, if_false]
    exact hq gi1 g1 fr gf hpi1 hS1 h24
theorem da_tb {d nt m lq : Nat} {gi : GI} {g : AG} {Ls : Nat → List PC} {K : Nat → Int32} {Q : Option AV → AH → Prop} {x : DS} (hB : BK gi g Ls nt m K) (hx : daOK K nt x) (hp : ∀ t, t < nt → Pap gi t (Wk K t) (Tk K t) (Ok K t) (x.2 t)) (hpi : ∀ t, t < 6 → PaperInv gi t) (o1 o8 : Option AV) (n sm ii : Int32)
    (hq : ∀ gi' o7 o8, OnlyPs nt gi gi' → (∀ t, t < nt → Pap gi' t (Wk K t) (Tk K t) (Ok K t) ((daT K x nt).2 t)) → (∀ t, t < 6 → PaperInv gi' t) → Runs (d + 6) (m_S_daub, 132, [some (.inr (.inr (some (0, 0)))), o1, some (.inl n), some (.inr (.inr (some (4, lq)))), some (.inl (n32 (daT K x nt).1)), some (.inl sm), some (.inl ii), o7, o8], []) (gi', g) Q) :
    Runs (d + 6) (m_S_daub, 64, [some (.inr (.inr (some (0, 0)))), o1, some (.inl n), some (.inr (.inr (some (4, lq)))), some (.inl (n32 x.1)), some (.inl sm), some (.inl ii), some (.inl (n32 0)), o8], []) (gi, g) Q := by
  have hG := hB.2.1
  have n6 := hB.2.2.1.1
  have b1 := hB.2.2.1.2.2.2.2.1
  have key := loop_up (n := nt) (P := fun t => ∀ (gi1 : GI) o8, OnlyPs nt gi gi1 → (∀ u, u < nt → Pap gi1 u (Wk K u) (Tk K u) (Ok K u) ((daT K x t).2 u)) → (∀ u, u < 6 → PaperInv gi1 u) → Runs (d + 6) (m_S_daub, 64, [some (.inr (.inr (some (0, 0)))), o1, some (.inl n), some (.inr (.inr (some (4, lq)))), some (.inl (n32 (daT K x t).1)), some (.inl sm), some (.inl ii), some (.inl (n32 t)), o8], []) (gi1, g) Q) ?_ ?_
  · exact key 0 (Nat.zero_le _) gi o8 (fun _ _ _ _ _ _ => rfl) hp hpi
  · intro t ht ih gi1 o8 ho hp1 hpi1
    have e1 : gi1 1 0 1 = n32 nt := (ho 1 0 1 (by omega) (by omega) (by omega)).trans b1
    have hP := hp1 t ht
    have hW := hP.1.2.2.2.1
    have hT := hP.1.2.2.2.2.1
    have h64 := wt64 hW.2 hT.2
    have hpos : 1 ≤ Wk K t * Tk K t := Nat.mul_pos (by omega) (by omega)
    have hz : ¬ Wk K t * Tk K t = 0 := by omega
    have hmx : (if 1 < Wk K t * Tk K t then n32 (Wk K t * Tk K t) else n32 1) = n32 (Wk K t * Tk K t) := by
      by_cases z : 1 < Wk K t * Tk K t
      · rw [if_pos z]
      · rw [if_neg z]
        congr 1
        omega
    have hs := (daT_ok hx t).1
    have h1 := dr_lt (daT K x t).1
    have h2 := dr_lt (dr (daT K x t).1)
    have hcell : dr (daT K x t).1 % (Wk K t * Tk K t) < Wk K t * Tk K t := Nat.mod_lt _ (by omega)
    have hpart : dr (dr (daT K x t).1) % 10 < 10 := Nat.mod_lt _ (by decide)
    rw [b_S_daub_64b]
    simp (disch := omega) only [b_S_daub_76b, b_S_daub_81b, b_S_daub_96b, b_S_daub_107b, e1, ht, c_nextDraw _ _ _ _ hs, c_nextDraw _ _ _ _ h1, c_Paper_area _ _ _ _ hP.1.1 hP.1.2.1, hmx, hz, n32_rem2, G_0_0 hG, G_0_1 hG, G_0_2 hG, G_0_3 hG, G_0_7 hG, G_0_10 hG, G_0_12 hG, G_0_13 hG, G_0_14 hG, G_0_15 hG, G_0_16 hG, G_0_17 hG, G_1_0 hG, G_1_2 hG, G_1_5 hG, G_2_4 hG, G_2_5 hG, G_3_5 hG, G_3_6 hG, G_3_7 hG, G_3_8 hG, G_3_9 hG, G_5_0 hG, G_5_1 hG, G_6_0 hG, G_6_1 hG, G_6_2 hG, G_6_9 hG, G_6_10 hG, G_6_11 hG, G_6_12 hG, G_6_13 hG, G_7_0 hG, G_7_5 hG, G_8_8 hG, G_8_9 hG, G_9_8 hG, G_9_9 hG, G_10_7 hG, G_10_8 hG, G_10_9 hG, G_10_10 hG, G_10_11 hG, G_11_0 hG, G_12_2 hG, G_12_3 hG, G_12_4 hG, G_12_5 hG, G_12_7 hG, G_12_8 hG, G_12_9 hG, G_12_12 hG, G_12_13 hG, G_12_14 hG, G_12_22 hG, G_12_23 hG, G_12_29 hG, G_12_30 hG, G_12_31 hG, G_12_37 hG, G_12_38 hG, G_12_39 hG, G_12_40 hG, G_12_41 hG, G_12_43 hG, G_12_46 hG, G_12_47 hG, G_12_48 hG, G_25 hG, G_26 hG, G_47 hG, G_58 hG, n32_add, n32_mul, n32_lt, n32_le, n32_eq, n32_clamp, n32_inT, n32_div, n32_rem, n32_m1, n32_m1', n32_m1lt, n32_ltm1, n32_10, n32_01, Nat.not_lt_zero, Nat.lt_irrefl, Nat.mul_zero, Nat.zero_mul, Nat.zero_add, Nat.add_zero, Nat.reduceEqDiff, Nat.one_ne_zero, Nat.zero_ne_one, ax_psh_none, ax_psh_some, true_and, and_true, and_false, false_and, not_true_eq_false, not_false_eq_true, true_imp_iff, false_imp_iff, imp_self, or_true, true_or, or_false, false_or, and_self, ite_true, ite_false, if_true, if_false]
    refine c_put (d := d + 4) hG (by omega) hP hcell hpart ?_
    intro gi2 ho2 hp2
    simp only [b_S_daub_126b, n32_add, ax_psh_none, ax_psh_some, true_and, and_true, and_false, false_and, not_true_eq_false, not_false_eq_true, true_imp_iff, false_imp_iff, imp_self, or_true, true_or, or_false, false_or, and_self, ite_true, ite_false, if_true, if_false]
    refine ih gi2 _ (fun s a j q1 q2 q3 => (OnlyP_s ho2 ht s a j q1 q2 q3).trans (ho s a j q1 q2 q3)) (fun u hu => ?_) (PI_P hpi1 ho2 (Pap_inv hp2))
    show Pap gi2 u (Wk K u) (Tk K u) (Ok K u) (if u = t then _ else (daT K x t).2 u)
    by_cases z : u = t
    · rw [if_pos z, z]
      exact hp2
    · rw [if_neg z]
      exact Pap_P (hp1 u hu) ho2 z
  · intro gi1 o8 ho hp1 hpi1
    have e1 : gi1 1 0 1 = n32 nt := (ho 1 0 1 (by omega) (by omega) (by omega)).trans b1
    rw [b_S_daub_64b]
    simp (disch := omega) only [e1, G_0_0 hG, G_0_1 hG, G_0_2 hG, G_0_3 hG, G_0_7 hG, G_0_10 hG, G_0_12 hG, G_0_13 hG, G_0_14 hG, G_0_15 hG, G_0_16 hG, G_0_17 hG, G_1_0 hG, G_1_2 hG, G_1_5 hG, G_2_4 hG, G_2_5 hG, G_3_5 hG, G_3_6 hG, G_3_7 hG, G_3_8 hG, G_3_9 hG, G_5_0 hG, G_5_1 hG, G_6_0 hG, G_6_1 hG, G_6_2 hG, G_6_9 hG, G_6_10 hG, G_6_11 hG, G_6_12 hG, G_6_13 hG, G_7_0 hG, G_7_5 hG, G_8_8 hG, G_8_9 hG, G_9_8 hG, G_9_9 hG, G_10_7 hG, G_10_8 hG, G_10_9 hG, G_10_10 hG, G_10_11 hG, G_11_0 hG, G_12_2 hG, G_12_3 hG, G_12_4 hG, G_12_5 hG, G_12_7 hG, G_12_8 hG, G_12_9 hG, G_12_12 hG, G_12_13 hG, G_12_14 hG, G_12_22 hG, G_12_23 hG, G_12_29 hG, G_12_30 hG, G_12_31 hG, G_12_37 hG, G_12_38 hG, G_12_39 hG, G_12_40 hG, G_12_41 hG, G_12_43 hG, G_12_46 hG, G_12_47 hG, G_12_48 hG, G_25 hG, G_26 hG, G_47 hG, G_58 hG, n32_add, n32_mul, n32_lt, n32_le, n32_eq, n32_clamp, n32_inT, n32_div, n32_rem, n32_m1, n32_m1', n32_m1lt, n32_ltm1, n32_10, n32_01, Nat.not_lt_zero, Nat.lt_irrefl, Nat.mul_zero, Nat.zero_mul, Nat.zero_add, Nat.add_zero, Nat.reduceEqDiff, Nat.one_ne_zero, Nat.zero_ne_one, ax_psh_none, ax_psh_some, true_and, and_true, and_false, false_and, not_true_eq_false, not_false_eq_true, true_imp_iff, false_imp_iff, imp_self, or_true, true_or, or_false, false_or, and_self, ite_true, ite_false, if_true, if_false]
    exact hq gi1 _ o8 ho hp1 hpi1
theorem da_db {d nt m s n lq : Nat} {gi : GI} {g : AG} {Ls : Nat → List PC} {K : Nat → Int32} {L : Option (List PC)} {Q : Option AV → AH → Prop} {x : DS} (hB : BK gi g Ls nt m K) (hx : daOK K nt x) (hp : ∀ t, t < nt → Pap gi t (Wk K t) (Tk K t) (Ok K t) (x.2 t)) (hpi : ∀ t, t < 6 → PaperInv gi t) (hL : LawRef gi g (some (4, lq)) L) (hn : n ≤ 40) (hS : Stamps gi s) (hs : s + 1000 < 100000000) (o1 o7 o8 : Option AV)
    (hq : ∀ gi' g', Fr dMod gi gi' → GF g g' → (∀ t, t < 6 → PaperInv gi' t) → Stamps gi' (s + nt * n) → (∀ u, u < n → gi' 24 0 u = n32 (owD K L nt x u)) → Q (some (.inl (n32 (sumN (owD K L nt x) n)))) (donC (ax_wI gi' 0 0 11 (n32 n)), g')) :
    Runs (d + 6) (m_S_daub, 55, [some (.inr (.inr (some (0, 0)))), o1, some (.inl (n32 n)), some (.inr (.inr (some (4, lq)))), some (.inl (n32 x.1)), some (.inl (n32 0)), some (.inl (n32 0)), o7, o8], []) (gi, g) Q := by
  have n6 := hB.2.2.1.1
  have c1 : (n32 1).toNatClampNeg = 1 := by decide
  have key := loop_up (n := n) (P := fun i => ∀ (gi1 : GI) (g1 : AG) o1 o7 o8, Fr dMod gi gi1 → GF g g1 → (∀ t, t < nt → Pap gi1 t (Wk K t) (Tk K t) (Ok K t) ((daD K nt x i).2 t)) → (∀ t, t < 6 → PaperInv gi1 t) → Stamps gi1 (s + nt * i) → (∀ u, u < i → gi1 24 0 u = n32 (owD K L nt x u)) → Runs (d + 6) (m_S_daub, 55, [some (.inr (.inr (some (0, 0)))), o1, some (.inl (n32 n)), some (.inr (.inr (some (4, lq)))), some (.inl (n32 (daD K nt x i).1)), some (.inl (n32 (sumN (owD K L nt x) i))), some (.inl (n32 i)), o7, o8], []) (gi1, g1) Q) ?_ ?_
  · exact key 0 (Nat.zero_le _) gi g o1 o7 o8 (Fr_refl _ _) (GF_refl hB.2.1) hp hpi hS (fun u hu => absurd hu (Nat.not_lt_zero u))
  · intro i hi ih gi1 g1 o1 o7 o8 fr gf hp1 hpi1 hS1 h24
    have hB1 := BK_d hB fr gf
    have hnt : nt * i ≤ 6 * 40 := Nat.mul_le_mul n6 (by omega)
    rw [b_S_daub_55b]
    simp (disch := omega) only [b_S_daub_61b, hi, n32_add, n32_mul, n32_lt, n32_le, n32_eq, n32_clamp, n32_inT, n32_div, n32_rem, n32_m1, n32_m1', n32_m1lt, n32_ltm1, n32_10, n32_01, Nat.not_lt_zero, Nat.lt_irrefl, Nat.mul_zero, Nat.zero_mul, Nat.zero_add, Nat.add_zero, Nat.reduceEqDiff, Nat.one_ne_zero, Nat.zero_ne_one, ax_psh_none, ax_psh_some, true_and, and_true, and_false, false_and, not_true_eq_false, not_false_eq_true, true_imp_iff, false_imp_iff, imp_self, or_true, true_or, or_false, false_or, and_self, ite_true, ite_false, if_true, if_false]
    refine da_tb (lq := lq) hB1 (daD_ok hx i) hp1 hpi1 _ _ _ _ _ ?_
    intro gi2 o7' o8' ho hp2 hpi2
    have fr2 : Fr dMod gi gi2 := Fr_trans fr (d_q (qMod_Ps ho))
    have hB2 := BK_d hB fr2 gf
    have hG := gf.2.1
    obtain ⟨-, ⟨a3, a4⟩, -, -⟩ := terms_k hB2.2.2.1.2.2.2.2.2.2.2.2.1
    have t1 : gi2 28 0 1 = n32 (dyk K) := (hB2.2.2.1.2.2.2.2.2.2.2.2.2 1 (by omega)).trans a3
    have hL2 : LawRef gi2 g1 (some (4, lq)) L := LawRef_fr hL (fun s a j q => by rcases q with rfl | rfl | rfl | rfl <;> exact fr2 _ _ _ rfl) gf
    simp (disch := omega) only [b_S_daub_132b, t1, c1, G_0_0 hG, G_0_1 hG, G_0_2 hG, G_0_3 hG, G_0_7 hG, G_0_10 hG, G_0_12 hG, G_0_13 hG, G_0_14 hG, G_0_15 hG, G_0_16 hG, G_0_17 hG, G_1_0 hG, G_1_2 hG, G_1_5 hG, G_2_4 hG, G_2_5 hG, G_3_5 hG, G_3_6 hG, G_3_7 hG, G_3_8 hG, G_3_9 hG, G_5_0 hG, G_5_1 hG, G_6_0 hG, G_6_1 hG, G_6_2 hG, G_6_9 hG, G_6_10 hG, G_6_11 hG, G_6_12 hG, G_6_13 hG, G_7_0 hG, G_7_5 hG, G_8_8 hG, G_8_9 hG, G_9_8 hG, G_9_9 hG, G_10_7 hG, G_10_8 hG, G_10_9 hG, G_10_10 hG, G_10_11 hG, G_11_0 hG, G_12_2 hG, G_12_3 hG, G_12_4 hG, G_12_5 hG, G_12_7 hG, G_12_8 hG, G_12_9 hG, G_12_12 hG, G_12_13 hG, G_12_14 hG, G_12_22 hG, G_12_23 hG, G_12_29 hG, G_12_30 hG, G_12_31 hG, G_12_37 hG, G_12_38 hG, G_12_39 hG, G_12_40 hG, G_12_41 hG, G_12_43 hG, G_12_46 hG, G_12_47 hG, G_12_48 hG, G_25 hG, G_26 hG, G_47 hG, G_58 hG, n32_add, n32_mul, n32_lt, n32_le, n32_eq, n32_clamp, n32_inT, n32_div, n32_rem, n32_m1, n32_m1', n32_m1lt, n32_ltm1, n32_10, n32_01, Nat.not_lt_zero, Nat.lt_irrefl, Nat.mul_zero, Nat.zero_mul, Nat.zero_add, Nat.add_zero, Nat.reduceEqDiff, Nat.one_ne_zero, Nat.zero_ne_one, ax_psh_none, ax_psh_some, true_and, and_true, and_false, false_and, not_true_eq_false, not_false_eq_true, true_imp_iff, false_imp_iff, imp_self, or_true, true_or, or_false, false_or, and_self, ite_true, ite_false, if_true, if_false]
    refine c_owedByAll (d := d) (bb := (daD K nt x (i + 1)).2) hB2 hp2 hL2 (by omega) (St_q hS1 ho) (by omega) ?_
    intro gi3 g3 fr3 gf3 hS3
    have hG := gf3.2.1
    simp (disch := omega) only [b_S_daub_155b, wI_self, G_0_0 hG, G_0_1 hG, G_0_2 hG, G_0_3 hG, G_0_7 hG, G_0_10 hG, G_0_12 hG, G_0_13 hG, G_0_14 hG, G_0_15 hG, G_0_16 hG, G_0_17 hG, G_1_0 hG, G_1_2 hG, G_1_5 hG, G_2_4 hG, G_2_5 hG, G_3_5 hG, G_3_6 hG, G_3_7 hG, G_3_8 hG, G_3_9 hG, G_5_0 hG, G_5_1 hG, G_6_0 hG, G_6_1 hG, G_6_2 hG, G_6_9 hG, G_6_10 hG, G_6_11 hG, G_6_12 hG, G_6_13 hG, G_7_0 hG, G_7_5 hG, G_8_8 hG, G_8_9 hG, G_9_8 hG, G_9_9 hG, G_10_7 hG, G_10_8 hG, G_10_9 hG, G_10_10 hG, G_10_11 hG, G_11_0 hG, G_12_2 hG, G_12_3 hG, G_12_4 hG, G_12_5 hG, G_12_7 hG, G_12_8 hG, G_12_9 hG, G_12_12 hG, G_12_13 hG, G_12_14 hG, G_12_22 hG, G_12_23 hG, G_12_29 hG, G_12_30 hG, G_12_31 hG, G_12_37 hG, G_12_38 hG, G_12_39 hG, G_12_40 hG, G_12_41 hG, G_12_43 hG, G_12_46 hG, G_12_47 hG, G_12_48 hG, G_25 hG, G_26 hG, G_47 hG, G_58 hG, n32_add, n32_mul, n32_lt, n32_le, n32_eq, n32_clamp, n32_inT, n32_div, n32_rem, n32_m1, n32_m1', n32_m1lt, n32_ltm1, n32_10, n32_01, Nat.not_lt_zero, Nat.lt_irrefl, Nat.mul_zero, Nat.zero_mul, Nat.zero_add, Nat.add_zero, Nat.reduceEqDiff, Nat.one_ne_zero, Nat.zero_ne_one, ax_psh_none, ax_psh_some, true_and, and_true, and_false, false_and, not_true_eq_false, not_false_eq_true, true_imp_iff, false_imp_iff, imp_self, or_true, true_or, or_false, false_or, and_self, ite_true, ite_false, if_true, if_false]
    have := ih (ax_wI gi3 24 0 i (n32 (owD K L nt x i))) g3 o1 o7' o8' ?_ (GF_trans gf gf3) ?_ ?_ ?_ ?_
    · exact this
    · exact Fr_wI (Fr_trans fr2 (d_q (q_co fr3))) rfl
    · intro t ht
      have hP := Pap_co (hp2 t ht) fr3
      obtain ⟨⟨p0, p1, p4, pW, pT, pw⟩, h2, h3, h54, hb, h55, h56⟩ := hP
      exact ⟨⟨(wI_ne (by decide) _ _ _ _ _).trans p0, (wI_ne (by decide) _ _ _ _ _).trans p1, (wI_ne (by decide) _ _ _ _ _).trans p4, pW, pT, fun f hf c hc => (wI_ne (by decide) _ _ _ _ _).trans (pw f hf c hc)⟩, (wI_ne (by decide) _ _ _ _ _).trans h2, (wI_ne (by decide) _ _ _ _ _).trans h3, fun c hc => (wI_ne (by decide) _ _ _ _ _).trans (h54 c hc), hb, fun l hl => (wI_ne (by decide) _ _ _ _ _).trans (h55 l hl), fun p hp => (wI_ne (by decide) _ _ _ _ _).trans (h56 p hp)⟩
    · intro t ht
      exact PaperInv_of (PI_co hpi2 fr3 t ht) (fun j => wI_ne (by decide) _ _ _ _ _) (fun a j => wI_ne (by decide) _ _ _ _ _)
    · rw [Nat.mul_succ, ← Nat.add_assoc]
      exact Stamps_of hS3 (wI_ne (by decide) _ _ _ _ _) (fun j => wI_ne (by decide) _ _ _ _ _)
    · intro u hu
      rw [wI_at]
      by_cases z : u = i
      · rw [if_pos ⟨rfl, rfl, z⟩, z]
      · rw [if_neg (by omega), fr3 24 0 u rfl, ho 24 0 u (by omega) (by omega) (by omega)]
        exact h24 u (by omega)
  · intro gi1 g1 o1 o7 o8 fr gf hp1 hpi1 hS1 h24
    rw [b_S_daub_55b]
    simp (disch := omega) only [b_S_daub_174, b_S_daub_185, c_S_done, n32_add, n32_mul, n32_lt, n32_le, n32_eq, n32_clamp, n32_inT, n32_div, n32_rem, n32_m1, n32_m1', n32_m1lt, n32_ltm1, n32_10, n32_01, Nat.not_lt_zero, Nat.lt_irrefl, Nat.mul_zero, Nat.zero_mul, Nat.zero_add, Nat.add_zero, Nat.reduceEqDiff, Nat.one_ne_zero, Nat.zero_ne_one, ax_psh_none, ax_psh_some, true_and, and_true, and_false, false_and, not_true_eq_false, not_false_eq_true, true_imp_iff, false_imp_iff, imp_self, or_true, true_or, or_false, false_or, and_self, ite_true, ite_false, if_true, if_false]
    exact hq gi1 g1 fr gf hpi1 hS1 h24
theorem c_S_daub {d nt m s n seed : Nat} {gi : GI} {g : AG} {Ls : Nat → List PC} {K : Nat → Int32} {Q : Option AV → AH → Prop} (hB : BK gi g Ls nt m K) (hpi : ∀ t, t < 6 → PaperInv gi t) (hseed : seed ≤ 1000000) (hn : 1 ≤ n ∧ n ≤ 40) (hS : Stamps gi s) (hs : s + 1000 < 100000000)
    (hq : ∀ gi' g', Fr dMod gi gi' → GF g g' → (∀ t, t < 6 → PaperInv gi' t) → Stamps gi' (s + nt * n) → (∀ u, u < n → gi' 24 0 u = n32 (owD K (lawL Ls (K 798)) nt (seed, bk K) u)) → Q (some (.inl (n32 (sumN (owD K (lawL Ls (K 798)) nt (seed, bk K)) n)))) (donC (ax_wI gi' 0 0 11 (n32 n)), g')) :
    ax_call (d + 7) m_S_daub [.inr (.inr (some (0, 0))), .inl (n32 seed), .inl (n32 n)] (gi, g) Q := by
  have hG := hB.2.1
  have n6 := hB.2.2.1.1
  have b1 := hB.2.2.1.2.2.2.2.1
  have hTh : ThingsR gi 0 nt (gi 64 0) := by rw [hB.1]; exact hB.2.2.2.1
  rw [e_S_daub]
  simp (disch := omega) only [b_S_daub_0, b_S_daub_8, b_S_daub_11, b_S_daub_18, b_S_daub_27, c_S_within, win_T, n32_add, n32_mul, n32_lt, n32_le, n32_eq, n32_clamp, n32_inT, n32_div, n32_rem, n32_m1, n32_m1', n32_m1lt, n32_ltm1, n32_10, n32_01, Nat.not_lt_zero, Nat.lt_irrefl, Nat.mul_zero, Nat.zero_mul, Nat.zero_add, Nat.add_zero, Nat.reduceEqDiff, Nat.one_ne_zero, Nat.zero_ne_one, ax_psh_none, ax_psh_some, true_and, and_true, and_false, false_and, not_true_eq_false, not_false_eq_true, true_imp_iff, false_imp_iff, imp_self, or_true, true_or, or_false, false_or, and_self, ite_true, ite_false, if_true, if_false]
  refine c_layOut (d := d + 1) hG b1 n6 hTh hpi ?_
  intro gi1 ho hp1 hpi1
  rw [hB.1] at hp1
  have fr1 : Fr dMod gi gi1 := d_q (qMod_Ps ho)
  have hB1 := BK_d hB fr1 (GF_refl hG)
  have e14 : gi1 1 0 4 = K 798 := hB1.2.2.1.2.2.2.2.2.2.1
  have hok : daOK K nt (seed, bk K) := ⟨by show seed < 1000003; omega, fun u hu => (hp1 u hu).2.2.2.2.1⟩
  simp (disch := omega) only [b_S_daub_31, e14, G_0_0 hG, G_0_1 hG, G_0_2 hG, G_0_3 hG, G_0_7 hG, G_0_10 hG, G_0_12 hG, G_0_13 hG, G_0_14 hG, G_0_15 hG, G_0_16 hG, G_0_17 hG, G_1_0 hG, G_1_2 hG, G_1_5 hG, G_2_4 hG, G_2_5 hG, G_3_5 hG, G_3_6 hG, G_3_7 hG, G_3_8 hG, G_3_9 hG, G_5_0 hG, G_5_1 hG, G_6_0 hG, G_6_1 hG, G_6_2 hG, G_6_9 hG, G_6_10 hG, G_6_11 hG, G_6_12 hG, G_6_13 hG, G_7_0 hG, G_7_5 hG, G_8_8 hG, G_8_9 hG, G_9_8 hG, G_9_9 hG, G_10_7 hG, G_10_8 hG, G_10_9 hG, G_10_10 hG, G_10_11 hG, G_11_0 hG, G_12_2 hG, G_12_3 hG, G_12_4 hG, G_12_5 hG, G_12_7 hG, G_12_8 hG, G_12_9 hG, G_12_12 hG, G_12_13 hG, G_12_14 hG, G_12_22 hG, G_12_23 hG, G_12_29 hG, G_12_30 hG, G_12_31 hG, G_12_37 hG, G_12_38 hG, G_12_39 hG, G_12_40 hG, G_12_41 hG, G_12_43 hG, G_12_46 hG, G_12_47 hG, G_12_48 hG, G_25 hG, G_26 hG, G_47 hG, G_58 hG, ax_psh_none, ax_psh_some, true_and, and_true, and_false, false_and, not_true_eq_false, not_false_eq_true, true_imp_iff, false_imp_iff, imp_self, or_true, true_or, or_false, false_or, and_self, ite_true, ite_false, if_true, if_false]
  refine lawAt_b (d := d + 3) hB1 hB1.2.2.1.2.2.2.2.2.2.2.1 ?_
  intro lw hlw
  rcases lw_cases hlw with rfl | ⟨q, rfl⟩
  · simp only [b_S_daub_45a, ax_psh_none, ax_psh_some, true_and, and_true, and_false, false_and, not_true_eq_false, not_false_eq_true, true_imp_iff, false_imp_iff, imp_self, or_true, true_or, or_false, false_or, and_self, ite_true, ite_false, if_true, if_false]
    refine da_da (lq := 0) hB1 hok hp1 hpi1 hlw hn.2 (St_q hS ho) hs _ _ _ ?_
    intro gi' g' f1 f2 f3 f4 f5
    exact hq gi' g' (Fr_trans fr1 f1) f2 f3 f4 f5
  · simp only [b_S_daub_45b, ax_psh_none, ax_psh_some, true_and, and_true, and_false, false_and, not_true_eq_false, not_false_eq_true, true_imp_iff, false_imp_iff, imp_self, or_true, true_or, or_false, false_or, and_self, ite_true, ite_false, if_true, if_false]
    refine da_db hB1 hok hp1 hpi1 hlw hn.2 (St_q hS ho) hs _ _ _ ?_
    intro gi' g' f1 f2 f3 f4 f5
    exact hq gi' g' (Fr_trans fr1 f1) f2 f3 f4 f5
