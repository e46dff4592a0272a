/-! the class: the street's best, as kept -/
def nK (K : Nat → Int32) (nt : Nat) : Nat := (thK K nt 10).length
def inK (K : Nat → Int32) (nt : Nat) : Nat → Bool := fun t => decide (t ∈ thK K nt 10)
def coK (K : Nat → Int32) (nt : Nat) : List Nat → Nat := coF (twK K) (nek K) (gt (plK K nt 10)) (twk K) (nK K nt)
def bestK (K : Nat → Int32) (nt : Nat) : BS := (prm (nK K nt) (inK K nt)).foldl (bStep (coK K nt)) (0, 0, [])
def pairsK (K : Nat → Int32) (nt : Nat) : Nat := pcF (twK K) (nek K) (gt (plK K nt 10)) (gt (thK K nt 10)) (nK K nt)
def BestV (gi : GI) (K : Nat → Int32) (nt : Nat) : Prop := gi 10 0 4 = n32 (nK K nt) ∧ gi 10 0 1 = n32 (pairsK K nt) ∧ (∀ i, i < nK K nt → gi 49 0 i = n32 ((plK K nt 10).getD i 0)) ∧ BV gi (nK K nt) (bestK K nt)
def SW (gi : GI) (v : Nat) : Prop := (gi 10 0 0 = -1 ∨ ∃ x, x ≤ v ∧ gi 10 0 0 = n32 x) ∧ (gi 10 0 0 = n32 v → BestV gi (gi 64 0) (cl (gi 64 0 796)))
theorem BestV_of {gi gi' : GI} {K : Nat → Int32} {nt : Nat} (h : BestV gi K nt) (h10 : ∀ j, 1 ≤ j → gi' 10 0 j = gi 10 0 j) (h49 : ∀ j, gi' 49 0 j = gi 49 0 j) (h51 : ∀ j, gi' 51 0 j = gi 51 0 j) : BestV gi' K nt := ⟨(h10 4 (by omega)).trans h.1, (h10 1 (by omega)).trans h.2.1, fun i hi => (h49 i).trans (h.2.2.1 i hi), (h10 3 (by omega)).trans h.2.2.2.1, (h10 2 (by omega)).trans h.2.2.2.2.1, fun q u hu => (h51 u).trans (h.2.2.2.2.2 q u hu)⟩
theorem SW_of {gi gi' : GI} {v : Nat} (h : SW gi v) (h10 : ∀ j, gi' 10 0 j = gi 10 0 j) (h49 : ∀ j, gi' 49 0 j = gi 49 0 j) (h51 : ∀ j, gi' 51 0 j = gi 51 0 j) (h64 : ∀ j, gi' 64 0 j = gi 64 0 j) : SW gi' v := by
  have e64 : gi' 64 0 = gi 64 0 := funext h64
  unfold SW at *
  rw [h10 0, e64]
  exact ⟨h.1, fun q => BestV_of (h.2 q) (fun j _ => h10 j) h49 h51⟩
theorem nK_le {K : Nat → Int32} {nt : Nat} (h : nt ≤ 6) : nK K nt ≤ 6 := Nat.le_trans (thK_len (Nat.le_refl 10)) h
def wbMod (s _j : Nat) : Bool := s == 3 || (Nat.ble 54 s && Nat.ble s 57) || s == 59 || s == 10 || (Nat.ble 48 s && Nat.ble s 52)
theorem wbMod_f {s j : Nat} (h : wbMod s j = false) : ¬ (s = 3 ∨ (54 ≤ s ∧ s ≤ 57) ∨ s = 59 ∨ s = 10 ∨ (48 ≤ s ∧ s ≤ 52)) := by
  unfold wbMod at h
  have hb : ∀ x y : Nat, Nat.ble x y = true ↔ x ≤ y := fun x y => by rw [Nat.ble_eq]
  rw [← Bool.not_eq_true] at h
  simp only [Bool.or_eq_true, Bool.and_eq_true, beq_iff_eq, hb] at h
  omega
theorem wbMod_no {s j : Nat} (h : ¬ (s = 3 ∨ (54 ≤ s ∧ s ≤ 57) ∨ s = 59 ∨ s = 10 ∨ (48 ≤ s ∧ s ≤ 52))) : wbMod s j = false := by
  cases hz : wbMod s j with
  | false => rfl
  | true =>
    exfalso
    unfold wbMod at hz
    have hb : ∀ x y : Nat, Nat.ble x y = true ↔ x ≤ y := fun x y => by rw [Nat.ble_eq]
    simp only [Bool.or_eq_true, Bool.and_eq_true, beq_iff_eq, hb] at hz
    omega
theorem c_wseek {d nt : Nat} {gi : GI} {g : AG} {K : Nat → Int32} {Q : Option AV → AH → Prop} (hG : GOK g) (n6 : nt ≤ 6) (hne : nek K ≤ 9) (htw : twk K ≤ 999) (hw : WayS gi K nt 10)
    (hq : ∀ gi', PutB gi gi' → BestV gi' K nt → Q none (gi', g)) :
    ax_call (d + 10) m_Street_seek [.inr (.inr (some (10, 0)))] (gi, g) Q := by
  obtain ⟨w4, w5, w6, w48, w49, w52, w1⟩ := hw
  have hn := nK_le (K := K) n6
  have hpl : (plK K nt 10).length = nK K nt := pt_len K nt 10
  have w4 : gi 10 0 4 = n32 (nK K nt) := w4
  have w1 : gi 10 0 1 = n32 (pairsK K nt) := w1
  have f : ∀ s a j, ¬ (s = 10 ∧ a = 0 ∧ (j = 2 ∨ j = 3)) → ax_wI (ax_wI gi 10 0 3 (n32 0)) 10 0 2 (n32 0) s a j = gi s a j := fun s a j q => by rw [wI_at, if_neg (by omega), wI_at, if_neg (by omega)]
  have f2 : ax_wI (ax_wI gi 10 0 3 (n32 0)) 10 0 2 (n32 0) 10 0 2 = n32 0 := by rw [wI_self]
  have f3 : ax_wI (ax_wI gi 10 0 3 (n32 0)) 10 0 2 (n32 0) 10 0 3 = n32 0 := by rw [wI_at, if_neg (by omega), wI_self]
  rw [e_Street_seek, b_Street_seek_0]
  generalize ax_wI (ax_wI gi 10 0 3 (n32 0)) 10 0 2 (n32 0) = gi0 at *
  have hK : PutK gi0 nt (nek K) (twk K) (nK K nt) (twK K) (gt (plK K nt 10)) := by
    refine ⟨hn, n6, hne, htw, twK_le K, (f 10 0 4 (by omega)).trans w4, (f 10 0 5 (by omega)).trans w5, (f 10 0 6 (by omega)).trans w6, fun a b ha hb => (f 48 a b (by omega)).trans (w48 a b ha hb), fun i hi => ⟨(f 49 0 i (by omega)).trans (w49 i hi).1, plK_lt (by omega)⟩, fun i j hij hj => plK_inc hij (by omega)⟩
  have := c_putFrom (nt := nt) (ne := nek K) (price := twk K) (n := nK K nt) (tw := twK K) (pl := gt (plK K nt 10)) hG hK (nK K nt) (d + 7 - nK K nt) [] (inK K nt) (0, 0, []) gi0 (fun r h' => Runs (d + 9) (m_Street_seek, 16, [some (.inr (.inr (some (10, 0))))], ax_psh r []) h' Q) (Nat.zero_add _) (fun i hi => absurd hi (Nat.not_lt_zero i)) (fun t ht hs => (thK_mem (of_decide_eq_true hs)).1) (by
    have : 6 ^ nK K nt ≤ 6 ^ 6 := Nat.pow_le_pow_right (by omega) hn
    have e : 6 ^ 6 = 46656 := rfl
    simp only
    omega) (Nat.zero_le _) ⟨fun _ _ _ _ _ _ _ => rfl, fun t ht => (f 52 0 t (by omega)).trans (w52 t ht), fun i hi => absurd hi (Nat.not_lt_zero i), f3, f2, fun q => absurd q (Nat.lt_irrefl 0)⟩ (fun gi' h => by
    obtain ⟨hB, -, -, hv⟩ := h
    rw [ax_psh_none, b_Street_seek_16]
    have em : (prm (nK K nt) (inK K nt)).map (fun r' => ([] : List Nat) ++ r') = prm (nK K nt) (inK K nt) := List.map_id' _
    rw [em] at hv
    refine hq gi' (fun s a j q1 q2 q3 q4 => (hB s a j q1 q2 q3 q4).trans (f s a j (by omega))) ⟨?_, ?_, fun i hi => ?_, hv⟩
    · rw [hB 10 0 4 (by decide) (by decide) (by decide) (Or.inr (by decide)), f 10 0 4 (by omega), w4]
    · rw [hB 10 0 1 (by decide) (by decide) (by decide) (Or.inr (by decide)), f 10 0 1 (by omega), w1]
    · rw [hB 49 0 i (by decide) (by decide) (by decide) (Or.inl (by decide)), f 49 0 i (by omega)]
      exact (w49 i hi).1)
  rw [show d + 7 - nK K nt + nK K nt + 2 = d + 9 by omega] at this
  exact this
theorem c_seekBest {d nt m v : Nat} {gi : GI} {g : AG} {Ls : Nat → List PC} {Q : Option AV → AH → Prop} (hB : BK gi g Ls nt m (gi 64 0)) (hPI : ∀ u, u < 6 → PaperInv gi u) (h9 : gi 0 0 9 = n32 v) (hSW : SW gi v)
    (hq : ∀ gi', Fr wbMod gi gi' → (∀ u, u < 6 → PaperInv gi' u) → SW gi' v → BestV gi' (gi 64 0) nt → Q none (gi', g)) :
    ax_call (d + 12) m_S_seekBest [.inr (.inr (some (0, 0)))] (gi, g) Q := by
  have hG := hB.2.1
  have n6 := hB.2.2.1.1
  have b1 := hB.2.2.1.2.2.2.2.1
  have hTh := hB.2.2.2.1
  have k796 : gi 64 0 796 = n32 nt := hB.2.2.1.2.2.1
  have ent : cl (gi 64 0 796) = nt := by rw [k796, cl_n (by omega)]
  obtain ⟨-, -, ⟨t1, t2, t3⟩, ⟨t4, t5⟩⟩ := terms_k hB.2.2.1.2.2.2.2.2.2.2.2.1
  rw [e_S_seekBest, b_S_seekBest_0, h9]
  refine ⟨G_0_17 hG 0, fun z => ?_, fun _ => ?_⟩
  · rw [b_S_seekBest_14]
    have := hSW.2 z
    rw [ent] at this
    exact hq gi (Fr_refl _ _) hPI hSW this
  · rw [b_S_seekBest_15]
    refine c_layOut (d := d + 6) hG b1 n6 hTh hPI (fun gi1 ho hp1 hPI1 => ?_)
    have hq1 := qMod_Ps ho
    have hB1 := BK_q hB hq1 (GF_refl hG)
    rw [ax_psh_none, b_S_seekBest_19]
    refine ⟨G_0_17 hG 0, G_0_0 hG 0, G_0_12 hG 0, ?_⟩
    refine c_survey (d := d + 7) hB1 hp1 (fun gi2 fr2 hw => ?_)
    rw [ax_psh_none, b_S_seekBest_34]
    refine ⟨G_0_17 hG 0, ?_⟩
    refine c_wseek (d := d + 1) hG n6 t3 t5 hw (fun gi3 pb hv => ?_)
    have fr3 : Fr wbMod gi gi3 := fun s a j q => by
      have := wbMod_f q
      rw [pb s a j (by omega) (by omega) (by omega) (by omega), fr2 s a j (by
        cases hz : svMod s j with
        | false => rfl
        | true =>
          exfalso
          unfold svMod at hz
          simp only [Bool.or_eq_true, beq_iff_eq] at hz
          omega)]
      exact ho s a j (by omega) (by omega) (by omega)
    have c3 : ∀ s a j, s ≠ 10 → ¬ (48 ≤ s ∧ s ≤ 52) → gi3 s a j = gi1 s a j := fun s a j q1 q2 => by
      rw [pb s a j (by omega) (by omega) (by omega) (by omega), fr2 s a j (by
        cases hz : svMod s j with
        | false => rfl
        | true =>
          exfalso
          unfold svMod at hz
          simp only [Bool.or_eq_true, beq_iff_eq] at hz
          omega)]
    have e9 : gi3 0 0 9 = n32 v := (fr3 0 0 9 rfl).trans h9
    rw [ax_psh_none, b_S_seekBest_41, e9]
    refine ⟨G_0_17 hG 0, ?_⟩
    have hv' : BestV (ax_wI gi3 10 0 0 (n32 v)) (gi 64 0) nt := BestV_of hv (fun j hj => by rw [wI_at, if_neg (by omega)]) (fun j => wI_ne (by decide) _ _ _ _ _) (fun j => wI_ne (by decide) _ _ _ _ _)
    have e64 : ax_wI gi3 10 0 0 (n32 v) 64 0 = gi 64 0 := funext (fun j => by rw [wI_ne (by decide)]; exact fr3 64 0 j rfl)
    refine hq _ (Fr_wI fr3 rfl) (fun u hu => PaperInv_of (hPI1 u hu) (fun j => ?_) (fun a j => ?_)) ⟨Or.inr ⟨v, Nat.le_refl _, wI_self _ _ _ _ _⟩, fun _ => ?_⟩ hv'
    · rw [wI_ne (by decide), c3 3 u j (by decide) (by omega)]
    · rw [wI_ne (by decide), c3 59 a j (by decide) (by omega)]
    · rw [e64, ent]
      exact hv'
/-- the first thing of a row that stands at a place -/
def atP (pl : List Nat) (r : FF) (x : Int32) : Nat → Int32
  | 0 => -1
  | k + 1 => if n32 (pl.getD (pl.length - (k + 1)) 0) = x then n32 (r (pl.length - (k + 1))) else atP pl r x k
theorem c_bestIn {d nt : Nat} {gi : GI} {g : AG} {K : Nat → Int32} {Q : Option AV → AH → Prop} (hG : GOK g) (n6 : nt ≤ 6) (hv : BestV gi K nt) (hpos : 0 < (bestK K nt).1) (x : Int32) : ax_call (d + 1) m_Street_bestIn [.inr (.inr (some (10, 0))), .inl x] (gi, g) Q = Q (some (.inl (atP (plK K nt 10) (gt (bestK K nt).2.2) x (nK K nt)))) (gi, g) := by
  obtain ⟨w4, w1, w49, hv⟩ := hv
  have hn := nK_le (K := K) n6
  have hpl : (plK K nt 10).length = nK K nt := pt_len K nt 10
  have key : ∀ k i, i + k = nK K nt → Runs d (m_Street_bestIn, 2, [some (.inr (.inr (some (10, 0)))), some (.inl x), some (.inl (n32 i))], []) (gi, g) Q = Q (some (.inl (atP (plK K nt 10) (gt (bestK K nt).2.2) x k))) (gi, g) := by
    intro k
    induction k with
    | zero =>
      intro i hi
      rw [b_Street_bestIn_2]
      have hnl : ¬ i < nK K nt := by omega
      simp (disch := omega) only [b_Street_bestIn_33, w4, hnl, n32_add, n32_mul, n32_lt, n32_le, n32_eq, n32_clamp, n32_inT, n32_div, n32_rem, n32_m1, n32_m1', n32_m1lt, n32_ltm1, n32_10, n32_01, Nat.not_lt_zero, Nat.lt_irrefl, Nat.mul_zero, Nat.zero_mul, Nat.zero_add, Nat.add_zero, Nat.reduceEqDiff, Nat.one_ne_zero, Nat.zero_ne_one, ax_psh_none, ax_psh_some, true_and, and_true, and_false, false_and, not_true_eq_false, not_false_eq_true, true_imp_iff, false_imp_iff, imp_self, or_true, true_or, or_false, false_or, and_self, ite_true, ite_false, if_true, if_false]
      rfl
    | succ k ih =>
      intro i hi
      have e49 := w49 i (by omega)
      have e51 := hv.2.2 hpos i (by omega)
      have ei : (plK K nt 10).length - (k + 1) = i := by omega
      have hlt : i < nK K nt := by omega
      rw [b_Street_bestIn_2]
      show _ = Q (some (.inl (if n32 ((plK K nt 10).getD ((plK K nt 10).length - (k + 1)) 0) = x then n32 (gt (bestK K nt).2.2 ((plK K nt 10).length - (k + 1))) else atP (plK K nt 10) (gt (bestK K nt).2.2) x k))) (gi, g)
      rw [ei]
      by_cases z : n32 ((plK K nt 10).getD i 0) = x
      · simp (disch := omega) only [b_Street_bestIn_10, b_Street_bestIn_20, w4, hlt, e49, e51, z, if_pos, G_0_0 hG, G_0_1 hG, G_0_2 hG, G_0_3 hG, G_0_7 hG, G_0_10 hG, G_0_12 hG, G_0_13 hG, G_0_14 hG, G_0_15 hG, G_0_16 hG, G_0_17 hG, G_1_0 hG, G_1_2 hG, G_1_5 hG, G_2_4 hG, G_2_5 hG, G_3_5 hG, G_3_6 hG, G_3_7 hG, G_3_8 hG, G_3_9 hG, G_5_0 hG, G_5_1 hG, G_6_0 hG, G_6_1 hG, G_6_2 hG, G_6_9 hG, G_6_10 hG, G_6_11 hG, G_6_12 hG, G_6_13 hG, G_7_0 hG, G_7_5 hG, G_8_8 hG, G_8_9 hG, G_9_8 hG, G_9_9 hG, G_10_7 hG, G_10_8 hG, G_10_9 hG, G_10_10 hG, G_10_11 hG, G_11_0 hG, G_12_2 hG, G_12_3 hG, G_12_4 hG, G_12_5 hG, G_12_7 hG, G_12_8 hG, G_12_9 hG, G_12_12 hG, G_12_13 hG, G_12_14 hG, G_12_22 hG, G_12_23 hG, G_12_29 hG, G_12_30 hG, G_12_31 hG, G_12_37 hG, G_12_38 hG, G_12_39 hG, G_12_40 hG, G_12_41 hG, G_12_43 hG, G_12_46 hG, G_12_47 hG, G_12_48 hG, G_25 hG, G_26 hG, G_47 hG, G_58 hG, n32_add, n32_mul, n32_lt, n32_le, n32_eq, n32_clamp, n32_inT, n32_div, n32_rem, n32_m1, n32_m1', n32_m1lt, n32_ltm1, n32_10, n32_01, Nat.not_lt_zero, Nat.lt_irrefl, Nat.mul_zero, Nat.zero_mul, Nat.zero_add, Nat.add_zero, Nat.reduceEqDiff, Nat.one_ne_zero, Nat.zero_ne_one, ax_psh_none, ax_psh_some, true_and, and_true, and_false, false_and, not_true_eq_false, not_false_eq_true, true_imp_iff, false_imp_iff, imp_self, or_true, true_or, or_false, false_or, and_self, ite_true, ite_false, if_true, if_false]
      · simp (disch := omega) only [b_Street_bestIn_10, b_Street_bestIn_27, w4, hlt, e49, z, if_neg, G_0_0 hG, G_0_1 hG, G_0_2 hG, G_0_3 hG, G_0_7 hG, G_0_10 hG, G_0_12 hG, G_0_13 hG, G_0_14 hG, G_0_15 hG, G_0_16 hG, G_0_17 hG, G_1_0 hG, G_1_2 hG, G_1_5 hG, G_2_4 hG, G_2_5 hG, G_3_5 hG, G_3_6 hG, G_3_7 hG, G_3_8 hG, G_3_9 hG, G_5_0 hG, G_5_1 hG, G_6_0 hG, G_6_1 hG, G_6_2 hG, G_6_9 hG, G_6_10 hG, G_6_11 hG, G_6_12 hG, G_6_13 hG, G_7_0 hG, G_7_5 hG, G_8_8 hG, G_8_9 hG, G_9_8 hG, G_9_9 hG, G_10_7 hG, G_10_8 hG, G_10_9 hG, G_10_10 hG, G_10_11 hG, G_11_0 hG, G_12_2 hG, G_12_3 hG, G_12_4 hG, G_12_5 hG, G_12_7 hG, G_12_8 hG, G_12_9 hG, G_12_12 hG, G_12_13 hG, G_12_14 hG, G_12_22 hG, G_12_23 hG, G_12_29 hG, G_12_30 hG, G_12_31 hG, G_12_37 hG, G_12_38 hG, G_12_39 hG, G_12_40 hG, G_12_41 hG, G_12_43 hG, G_12_46 hG, G_12_47 hG, G_12_48 hG, G_25 hG, G_26 hG, G_47 hG, G_58 hG, n32_add, n32_mul, n32_lt, n32_le, n32_eq, n32_clamp, n32_inT, n32_div, n32_rem, n32_m1, n32_m1', n32_m1lt, n32_ltm1, n32_10, n32_01, Nat.not_lt_zero, Nat.lt_irrefl, Nat.mul_zero, Nat.zero_mul, Nat.zero_add, Nat.add_zero, Nat.reduceEqDiff, Nat.one_ne_zero, Nat.zero_ne_one, ax_psh_none, ax_psh_some, true_and, and_true, and_false, false_and, not_true_eq_false, not_false_eq_true, true_imp_iff, false_imp_iff, imp_self, or_true, true_or, or_false, false_or, and_self, ite_true, ite_false, if_true, if_false]
        exact ih (i + 1) (by omega)
  rw [e_Street_bestIn, b_Street_bestIn_0]
  exact key (nK K nt) 0 (Nat.zero_add _)
