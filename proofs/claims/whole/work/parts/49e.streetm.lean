/-! the reference: the street laid, twins counted, the next row -/
theorem n32_dec (k : Nat) : n32 (k + 1) + (-1) = n32 k := by
  rw [← n32_add, Int32.add_assoc, show n32 1 + (-1) = 0 by decide, Int32.add_zero]
def StrM (gi : GI) (K : Nat → Int32) (nt : Nat) : Prop := gi 12 0 42 = n32 (nK K nt) ∧ (∀ i, i < nK K nt → gi 80 0 i = n32 ((plK K nt 10).getD i 0) ∧ gi 81 0 i = n32 ((thK K nt 10).getD i 0)) ∧ (∀ a b, a < nt → b < nt → gi 82 0 (6 * a + b) = n32 (twK K a b))
def msMod (s j : Nat) : Bool := (s == 12 && ((Nat.ble 24 j && Nat.ble j 28) || j == 42 || j == 44 || j == 45)) || s == 74 || (Nat.ble 80 s && Nat.ble s 83)
theorem msMod_f {s j : Nat} (h : msMod s j = false) : ¬ ((s = 12 ∧ ((24 ≤ j ∧ j ≤ 28) ∨ j = 42 ∨ j = 44 ∨ j = 45)) ∨ s = 74 ∨ (80 ≤ s ∧ s ≤ 83)) := by
  unfold msMod at h
  have hb : ∀ x y : Nat, Nat.ble x y = true ↔ x ≤ y := fun x y => by rw [Nat.ble_eq]
  rw [← Bool.not_eq_true] at h
  simp only [Bool.or_eq_true, Bool.and_eq_true, beq_iff_eq, hb] at h
  omega
theorem msMod_no {s j : Nat} (h : ¬ ((s = 12 ∧ ((24 ≤ j ∧ j ≤ 28) ∨ j = 42 ∨ j = 44 ∨ j = 45)) ∨ s = 74 ∨ (80 ≤ s ∧ s ≤ 83))) : msMod s j = false := by
  cases hz : msMod s j with
  | false => rfl
  | true =>
    exfalso
    unfold msMod at hz
    have hb : ∀ x y : Nat, Nat.ble x y = true ↔ x ≤ y := fun x y => by rw [Nat.ble_eq]
    simp only [Bool.or_eq_true, Bool.and_eq_true, beq_iff_eq, hb] at hz
    omega
theorem c_M_laysStreet {d nt m : Nat} {gi : GI} {g : AG} {Ls : Nat → List PC} {Q : Option AV → AH → Prop} (hB : BK gi g Ls nt m (gi 64 0))
    (hq : ∀ gi', Fr msMod gi gi' → StrM gi' (gi 64 0) nt → Q none (gi', g)) :
    ax_call (d + 5) m_M_laysStreet [.inr (.inr (some (12, 0)))] (gi, g) Q := by
  have hG := hB.2.1
  have n6 := hB.2.2.1.1
  have k796 : gi 64 0 796 = n32 nt := hB.2.2.1.2.2.1
  -- twins
  have la := loop_up (n := nt) (P := fun a => ∀ (gi1 : GI) o2, Fr msMod gi gi1 → gi1 12 0 42 = n32 (nK (gi 64 0) nt) → (∀ i, i < nK (gi 64 0) nt → gi1 80 0 i = n32 ((plK (gi 64 0) nt 10).getD i 0) ∧ gi1 81 0 i = n32 ((thK (gi 64 0) nt 10).getD i 0)) → (∀ a' b, a' < a → b < nt → gi1 82 0 (6 * a' + b) = n32 (twK (gi 64 0) a' b)) → Runs (d + 4) (m_M_laysStreet, 65, [some (.inr (.inr (some (12, 0)))), some (.inl (n32 a)), o2], []) (gi1, g) Q) (by
    intro a ha ih gi1 o2 fr q42 q80 q82
    have e796 : gi1 64 0 796 = n32 nt := (fr 64 0 796 rfl).trans k796
    rw [b_M_laysStreet_65, c_M_things _ _ _ _ hG, e796]
    simp only [ax_psh_some]
    rw [b_M_laysStreet_70]
    refine ⟨fun _ => ?_, fun z => absurd (by rw [n32_lt (by omega) (by omega)]; exact ha) z⟩
    have hva := thing_b hB ha
    rw [b_M_laysStreet_73]
    refine c_M_lays (d := d + 2) hG (by omega) (ThM_fr hva.2.1 (fun j => fr 64 0 j rfl)) (fun gi2 fr2 hl _ _ => ?_)
    have fr2' : Fr msMod gi gi2 := fun s a j q => by
      have := msMod_f q
      rw [fr2 s a j (layMod_no (by omega))]
      exact fr s a j q
    rw [ax_psh_none, b_M_laysStreet_78]
    have lb := loop_up (n := nt) (P := fun b => ∀ gi3 : GI, (∀ s x j, s ≠ 82 → gi3 s x j = gi2 s x j) → (∀ a' b', a' < a → b' < nt → gi3 82 0 (6 * a' + b') = n32 (twK (gi 64 0) a' b')) → (∀ b', b' < b → gi3 82 0 (6 * a + b') = n32 (twK (gi 64 0) a b')) → Runs (d + 4) (m_M_laysStreet, 80, [some (.inr (.inr (some (12, 0)))), some (.inl (n32 a)), some (.inl (n32 b))], []) (gi3, g) Q) (by
      intro b hb ihb gi3 f3 w82 w82a
      have e796' : gi3 64 0 796 = n32 nt := (f3 64 0 796 (by decide)).trans ((fr2' 64 0 796 rfl).trans k796)
      have hvb := thing_b hB hb
      rw [b_M_laysStreet_80, c_M_things _ _ _ _ hG, e796']
      simp only [ax_psh_some]
      rw [b_M_laysStreet_85]
      refine ⟨fun _ => ?_, fun z => absurd (by rw [n32_lt (by omega) (by omega)]; exact hb) z⟩
      have hl3 : Laid gi3 a (Wk (gi 64 0) a) (Tk (gi 64 0) a) (bk (gi 64 0) a) := by
        obtain ⟨l1, l2, l3, l4, l5, l6, l7⟩ := hl
        exact ⟨(f3 _ _ _ (by decide)).trans l1, (f3 _ _ _ (by decide)).trans l2, (f3 _ _ _ (by decide)).trans l3, l4, l5, l6, fun c hc => ⟨(f3 _ _ _ (by decide)).trans (l7 c hc).1, (l7 c hc).2⟩⟩
      have hm3 : ThM gi3 b (Wk (gi 64 0) b) (Tk (gi 64 0) b) (Ok (gi 64 0) b) (bk (gi 64 0) b) := ThM_fr hvb.2.1 (fun j => (f3 64 0 j (by decide)).trans (fr2' 64 0 j rfl))
      rw [b_M_laysStreet_88]
      refine ⟨G_12_41 hG 0, ?_⟩
      have hF : isF (Wk (gi 64 0) a) (Tk (gi 64 0) a) 0 = true := rfl
      rw [c_M_isAs (d + 1) hG hl3 hva.2.1.2.2.2.1.1 hva.2.1.2.2.2.2.1.1 (by omega) hm3 (by omega) hF]
      simp only [ax_psh_some]
      have etw : b32 (asB (Wk (gi 64 0) a) (Tk (gi 64 0) a) (bk (gi 64 0) a) (Wk (gi 64 0) b) (Tk (gi 64 0) b) (bk (gi 64 0) b) 0) = n32 (twK (gi 64 0) a b) := by
        unfold twK
        cases asB (Wk (gi 64 0) a) (Tk (gi 64 0) a) (bk (gi 64 0) a) (Wk (gi 64 0) b) (Tk (gi 64 0) b) (bk (gi 64 0) b) 0 <;> rfl
      have hd := b32_d (asB (Wk (gi 64 0) a) (Tk (gi 64 0) a) (bk (gi 64 0) a) (Wk (gi 64 0) b) (Tk (gi 64 0) b) (bk (gi 64 0) b) 0)
      rw [etw] at hd ⊢
      rw [n32_mul, n32_add, b_M_laysStreet_104, n32_clamp (by omega), n32_add]
      refine ⟨⟨hd, n32_in (by omega) (by omega)⟩, ihb _ (fun s x j q => ?_) (fun a' b' h1 h2 => ?_) (fun b' h1 => ?_)⟩
      · rw [wI_ne q]
        exact f3 s x j q
      · rw [wI_at, if_neg (by omega)]
        exact w82 a' b' h1 h2
      · rw [wI_at]
        by_cases q : b' = b
        · rw [if_pos ⟨rfl, rfl, by omega⟩, q]
        · rw [if_neg (by omega)]
          exact w82a b' (by omega)) (by
      intro gi3 f3 w82 w82a
      have e796' : gi3 64 0 796 = n32 nt := (f3 64 0 796 (by decide)).trans ((fr2' 64 0 796 rfl).trans k796)
      rw [b_M_laysStreet_80, c_M_things _ _ _ _ hG, e796']
      simp only [ax_psh_some]
      rw [b_M_laysStreet_85]
      refine ⟨fun z => absurd z (by rw [n32_lt (by omega) (by omega)]; omega), fun _ => ?_⟩
      rw [b_M_laysStreet_111, n32_add]
      refine ih gi3 _ (fun s x j q => ?_) ?_ (fun i hi => ?_) (fun a' b' h1 h2 => ?_)
      · have := msMod_f q
        rw [f3 s x j (by omega)]
        exact fr2' s x j q
      · rw [f3 12 0 42 (by decide), fr2 12 0 42 rfl, q42]
      · rw [f3 80 0 i (by decide), fr2 80 0 i rfl, f3 81 0 i (by decide), fr2 81 0 i rfl]
        exact q80 i hi
      · by_cases q : a' = a
        · rw [q]
          exact w82a b' h2
        · exact w82 a' b' (by omega) h2)
    exact lb 0 (Nat.zero_le _) gi2 (fun _ _ _ _ => rfl) (fun a' b' h1 h2 => by rw [fr2 82 0 _ rfl]; exact q82 a' b' h1 h2) (fun b' h => absurd h (Nat.not_lt_zero b'))) (by
    intro gi1 o2 fr q42 q80 q82
    have e796 : gi1 64 0 796 = n32 nt := (fr 64 0 796 rfl).trans k796
    rw [b_M_laysStreet_65, c_M_things _ _ _ _ hG, e796]
    simp only [ax_psh_some]
    rw [b_M_laysStreet_70]
    refine ⟨fun z => absurd z (by rw [n32_lt (by omega) (by omega)]; omega), fun _ => ?_⟩
    rw [b_M_laysStreet_117]
    exact hq gi1 fr ⟨q42, q80, q82⟩)
  -- the places
  have lp := loop_up (n := 10) (P := fun p => ∀ (gi1 : GI) o2, Fr msMod gi gi1 → gi1 12 0 42 = n32 (thK (gi 64 0) nt p).length → (∀ i, i < (thK (gi 64 0) nt p).length → gi1 80 0 i = n32 ((plK (gi 64 0) nt p).getD i 0) ∧ gi1 81 0 i = n32 ((thK (gi 64 0) nt p).getD i 0)) → Runs (d + 4) (m_M_laysStreet, 7, [some (.inr (.inr (some (12, 0)))), some (.inl (n32 p)), o2], []) (gi1, g) Q) (by
    intro p hp ih gi1 o2 fr q42 q80
    have e64 : gi1 64 0 = gi 64 0 := funext (fun j => fr 64 0 j rfl)
    have e796 : gi1 64 0 796 = n32 nt := (fr 64 0 796 rfl).trans k796
    have hlen := thK_len (K := gi 64 0) (nt := nt) (p := p) (by omega)
    have hlen1 := thK_len (K := gi 64 0) (nt := nt) (p := p + 1) (by omega)
    have hpe := pt_len (gi 64 0) nt p
    rw [b_M_laysStreet_7]
    refine ⟨fun _ => ?_, fun z => absurd (by rw [n32_lt (by omega) (by omega)]; exact hp) z⟩
    rw [b_M_laysStreet_13, c_M_standsIn (d + 2) hG e796 n6, e64, sIn_fp]
    simp only [ax_psh_some]
    rw [b_M_laysStreet_18]
    rcases thK_step (gi 64 0) nt p with ⟨zz, et, ep⟩ | ⟨zz, et, ep⟩
    · rw [if_pos zz]
      have eln : (thK (gi 64 0) nt (p + 1)).length = (thK (gi 64 0) nt p).length + 1 := by rw [et, List.length_append]; rfl
      refine ⟨fun q => absurd q (by rw [n32_m1 (by omega)]; exact id), fun _ => ?_⟩
      have x1 : ∀ v, ax_wI gi1 80 0 (thK (gi 64 0) nt p).length v 12 0 42 = n32 (thK (gi 64 0) nt p).length := fun v => by rw [wI_ne (by decide), q42]
      have x2 : ∀ v v', ax_wI (ax_wI gi1 80 0 (thK (gi 64 0) nt p).length v) 81 0 (thK (gi 64 0) nt p).length v' 12 0 42 = n32 (thK (gi 64 0) nt p).length := fun v v' => by rw [wI_ne (by decide), wI_ne (by decide), q42]
      rw [b_M_laysStreet_27, q42, n32_clamp (by omega), x1, n32_clamp (by omega), x2, n32_add]
      refine ⟨G_12_39 hG 0, n32_in (by omega) (by omega), G_12_40 hG 0, n32_in (by omega) (by omega), ?_⟩
      rw [b_M_laysStreet_57, n32_add]
      refine ih _ _ (Fr_wI (Fr_wI (Fr_wI fr rfl) rfl) rfl) (by rw [wI_self, eln]) (fun i hi => ⟨?_, ?_⟩)
      · rw [wI_ne (by decide), wI_ne (by decide), wI_at, ep, getD_app]
        by_cases q : i = (thK (gi 64 0) nt p).length
        · rw [if_pos ⟨rfl, rfl, q⟩, if_neg (by omega), if_pos (by omega)]
        · rw [if_neg (by omega), if_pos (by omega)]
          exact (q80 i (by omega)).1
      · rw [wI_ne (by decide), wI_at, et, getD_app]
        by_cases q : i = (thK (gi 64 0) nt p).length
        · rw [if_pos ⟨rfl, rfl, q⟩, if_neg (by omega), if_pos q]
        · rw [if_neg (by omega), wI_ne (by decide), if_pos (by omega)]
          exact (q80 i (by omega)).2
    · rw [if_neg zz]
      refine ⟨fun _ => ?_, fun q => absurd rfl q⟩
      rw [b_M_laysStreet_24, b_M_laysStreet_57, n32_add]
      refine ih gi1 _ fr ?_ ?_
      · rw [et]
        exact q42
      · rw [et, ep]
        exact q80) (by
    intro gi1 o2 fr q42 q80
    rw [b_M_laysStreet_7]
    refine ⟨fun z => absurd z (by rw [n32_lt (by omega) (by omega)]; omega), fun _ => ?_⟩
    rw [b_M_laysStreet_63]
    exact la 0 (Nat.zero_le _) gi1 _ fr q42 q80 (fun a' b h => absurd h (Nat.not_lt_zero a')))
  rw [e_M_laysStreet, b_M_laysStreet_0]
  exact lp 0 (Nat.zero_le _) _ _ (Fr_wI (Fr_refl _ _) rfl) (wI_self _ _ _ _ _) (fun i hi => absurd hi (Nat.not_lt_zero i))
theorem c_M_twins {d nt ne n : Nat} {tw : Nat → Nat → Nat} {pl r : FF} {gi : GI} {g : AG} {Q : Option AV → AH → Prop} (hG : GOK g) (n6 : nt ≤ 6) (hn : n ≤ 6) (hne : ne ≤ 9) (h42 : gi 12 0 42 = n32 n) (h80 : ∀ i, i < n → gi 80 0 i = n32 (pl i) ∧ pl i < 10) (hinc : ∀ i j, i < j → j < n → pl i < pl j) (h81 : ∀ i, i < n → gi 81 0 i = n32 (r i) ∧ r i < nt) (h64 : gi 64 0 794 = n32 ne) (h82 : ∀ a b, a < nt → b < nt → gi 82 0 (6 * a + b) = n32 (tw a b)) (htw : ∀ a b, tw a b ≤ 1) (hsym : ∀ a b, a < nt → b < nt → tw a b = tw b a) : ax_call (d + 1) m_M_twins [.inr (.inr (some (12, 0)))] (gi, g) Q = Q (some (.inl (n32 (pcF tw ne pl r n)))) (gi, g) := by
  have c794 : (n32 794).toNatClampNeg = 794 := by decide
  have key := loop_up (n := n) (P := fun k => ∀ o3, Runs d (m_M_twins, 4, [some (.inr (.inr (some (12, 0)))), some (.inl (n32 (sumN (pbF tw ne pl r) k))), some (.inl (n32 k)), o3], []) (gi, g) Q = Q (some (.inl (n32 (pcF tw ne pl r n)))) (gi, g)) ?_ ?_
  · rw [e_M_twins, b_M_twins_0]
    exact key 0 (Nat.zero_le _) _
  · intro k hk ih o3
    have inn := loop_up (n := k) (P := fun i => Runs d (m_M_twins, 14, [some (.inr (.inr (some (12, 0)))), some (.inl (n32 (sumN (pbF tw ne pl r) k + sumN (fun s => if pl k - pl s ≤ ne then tw (r s) (r k) else 0) i))), some (.inl (n32 k)), some (.inl (n32 i))], []) (gi, g) Q = Q (some (.inl (n32 (pcF tw ne pl r n)))) (gi, g)) ?_ ?_
    · rw [b_M_twins_4]
      simp (disch := omega) only [b_M_twins_12, h42, hk, n32_add, n32_mul, n32_lt, n32_le, n32_eq, n32_clamp, n32_inT, n32_div, n32_rem, n32_m1, n32_m1', n32_m1lt, n32_ltm1, n32_10, n32_01, Nat.not_lt_zero, Nat.lt_irrefl, Nat.mul_zero, Nat.zero_mul, Nat.zero_add, Nat.add_zero, Nat.reduceEqDiff, Nat.one_ne_zero, Nat.zero_ne_one, ax_psh_none, ax_psh_some, true_and, and_true, and_false, false_and, not_true_eq_false, not_false_eq_true, true_imp_iff, false_imp_iff, imp_self, or_true, true_or, or_false, false_or, and_self, ite_true, ite_false, if_true, if_false]
      exact inn 0 (Nat.zero_le _)
    · intro i hi ihi
      have p1 := h80 i (by omega)
      have p2 := h80 k hk
      have r1 := h81 i (by omega)
      have r2 := h81 k hk
      have hi2 := hinc i k hi hk
      have sb : n32 (pl k) - n32 (pl i) = n32 (pl k - pl i) := n32_sub (by omega)
      have e82 := h82 (r k) (r i) r2.2 r1.2
      have es := hsym (r k) (r i) r2.2 r1.2
      have ht1 := htw (r i) (r k)
      rw [b_M_twins_14]
      by_cases z : ne < pl k - pl i
      · simp (disch := omega) only [b_M_twins_19, b_M_twins_72, b_M_twins_73, hi, p1.1, p2.1, sb, h64, c794, z, G_0_0 hG, G_0_1 hG, G_0_2 hG, G_0_3 hG, G_0_7 hG, G_0_10 hG, G_0_12 hG, G_0_13 hG, G_0_14 hG, G_0_15 hG, G_0_16 hG, G_0_17 hG, G_1_0 hG, G_1_2 hG, G_1_5 hG, G_2_4 hG, G_2_5 hG, G_3_5 hG, G_3_6 hG, G_3_7 hG, G_3_8 hG, G_3_9 hG, G_5_0 hG, G_5_1 hG, G_6_0 hG, G_6_1 hG, G_6_2 hG, G_6_9 hG, G_6_10 hG, G_6_11 hG, G_6_12 hG, G_6_13 hG, G_7_0 hG, G_7_5 hG, G_8_8 hG, G_8_9 hG, G_9_8 hG, G_9_9 hG, G_10_7 hG, G_10_8 hG, G_10_9 hG, G_10_10 hG, G_10_11 hG, G_11_0 hG, G_12_2 hG, G_12_3 hG, G_12_4 hG, G_12_5 hG, G_12_7 hG, G_12_8 hG, G_12_9 hG, G_12_12 hG, G_12_13 hG, G_12_14 hG, G_12_22 hG, G_12_23 hG, G_12_29 hG, G_12_30 hG, G_12_31 hG, G_12_37 hG, G_12_38 hG, G_12_39 hG, G_12_40 hG, G_12_41 hG, G_12_43 hG, G_12_46 hG, G_12_47 hG, G_12_48 hG, G_25 hG, G_26 hG, G_47 hG, G_58 hG, n32_add, n32_mul, n32_lt, n32_le, n32_eq, n32_clamp, n32_inT, n32_div, n32_rem, n32_m1, n32_m1', n32_m1lt, n32_ltm1, n32_10, n32_01, Nat.not_lt_zero, Nat.lt_irrefl, Nat.mul_zero, Nat.zero_mul, Nat.zero_add, Nat.add_zero, Nat.reduceEqDiff, Nat.one_ne_zero, Nat.zero_ne_one, ax_psh_none, ax_psh_some, true_and, and_true, and_false, false_and, not_true_eq_false, not_false_eq_true, true_imp_iff, false_imp_iff, imp_self, or_true, true_or, or_false, false_or, and_self, ite_true, ite_false, if_true, if_false]
        rw [sumN_succ, if_neg (by omega)] at ihi
        exact ihi
      · rw [sumN_succ, if_pos (by omega)] at ihi
        by_cases y : tw (r i) (r k) = 0
        · rw [y] at ihi
          simp (disch := omega) only [b_M_twins_19, b_M_twins_44, b_M_twins_72, b_M_twins_73, hi, p1.1, p2.1, sb, h64, c794, z, r1.1, r2.1, e82, es, y, G_0_0 hG, G_0_1 hG, G_0_2 hG, G_0_3 hG, G_0_7 hG, G_0_10 hG, G_0_12 hG, G_0_13 hG, G_0_14 hG, G_0_15 hG, G_0_16 hG, G_0_17 hG, G_1_0 hG, G_1_2 hG, G_1_5 hG, G_2_4 hG, G_2_5 hG, G_3_5 hG, G_3_6 hG, G_3_7 hG, G_3_8 hG, G_3_9 hG, G_5_0 hG, G_5_1 hG, G_6_0 hG, G_6_1 hG, G_6_2 hG, G_6_9 hG, G_6_10 hG, G_6_11 hG, G_6_12 hG, G_6_13 hG, G_7_0 hG, G_7_5 hG, G_8_8 hG, G_8_9 hG, G_9_8 hG, G_9_9 hG, G_10_7 hG, G_10_8 hG, G_10_9 hG, G_10_10 hG, G_10_11 hG, G_11_0 hG, G_12_2 hG, G_12_3 hG, G_12_4 hG, G_12_5 hG, G_12_7 hG, G_12_8 hG, G_12_9 hG, G_12_12 hG, G_12_13 hG, G_12_14 hG, G_12_22 hG, G_12_23 hG, G_12_29 hG, G_12_30 hG, G_12_31 hG, G_12_37 hG, G_12_38 hG, G_12_39 hG, G_12_40 hG, G_12_41 hG, G_12_43 hG, G_12_46 hG, G_12_47 hG, G_12_48 hG, G_25 hG, G_26 hG, G_47 hG, G_58 hG, n32_add, n32_mul, n32_lt, n32_le, n32_eq, n32_clamp, n32_inT, n32_div, n32_rem, n32_m1, n32_m1', n32_m1lt, n32_ltm1, n32_10, n32_01, Nat.not_lt_zero, Nat.lt_irrefl, Nat.mul_zero, Nat.zero_mul, Nat.zero_add, Nat.add_zero, Nat.reduceEqDiff, Nat.one_ne_zero, Nat.zero_ne_one, ax_psh_none, ax_psh_some, true_and, and_true, and_false, false_and, not_true_eq_false, not_false_eq_true, true_imp_iff, false_imp_iff, imp_self, or_true, true_or, or_false, false_or, and_self, ite_true, ite_false, if_true, if_false]
          exact ihi
        · have y1 : tw (r i) (r k) = 1 := by omega
          rw [y1] at ihi
          simp (disch := omega) only [b_M_twins_19, b_M_twins_44, b_M_twins_68, b_M_twins_73, hi, p1.1, p2.1, sb, h64, c794, z, r1.1, r2.1, e82, es, y1, G_0_0 hG, G_0_1 hG, G_0_2 hG, G_0_3 hG, G_0_7 hG, G_0_10 hG, G_0_12 hG, G_0_13 hG, G_0_14 hG, G_0_15 hG, G_0_16 hG, G_0_17 hG, G_1_0 hG, G_1_2 hG, G_1_5 hG, G_2_4 hG, G_2_5 hG, G_3_5 hG, G_3_6 hG, G_3_7 hG, G_3_8 hG, G_3_9 hG, G_5_0 hG, G_5_1 hG, G_6_0 hG, G_6_1 hG, G_6_2 hG, G_6_9 hG, G_6_10 hG, G_6_11 hG, G_6_12 hG, G_6_13 hG, G_7_0 hG, G_7_5 hG, G_8_8 hG, G_8_9 hG, G_9_8 hG, G_9_9 hG, G_10_7 hG, G_10_8 hG, G_10_9 hG, G_10_10 hG, G_10_11 hG, G_11_0 hG, G_12_2 hG, G_12_3 hG, G_12_4 hG, G_12_5 hG, G_12_7 hG, G_12_8 hG, G_12_9 hG, G_12_12 hG, G_12_13 hG, G_12_14 hG, G_12_22 hG, G_12_23 hG, G_12_29 hG, G_12_30 hG, G_12_31 hG, G_12_37 hG, G_12_38 hG, G_12_39 hG, G_12_40 hG, G_12_41 hG, G_12_43 hG, G_12_46 hG, G_12_47 hG, G_12_48 hG, G_25 hG, G_26 hG, G_47 hG, G_58 hG, n32_add, n32_mul, n32_lt, n32_le, n32_eq, n32_clamp, n32_inT, n32_div, n32_rem, n32_m1, n32_m1', n32_m1lt, n32_ltm1, n32_10, n32_01, Nat.not_lt_zero, Nat.lt_irrefl, Nat.mul_zero, Nat.zero_mul, Nat.zero_add, Nat.add_zero, Nat.reduceEqDiff, Nat.one_ne_zero, Nat.zero_ne_one, ax_psh_none, ax_psh_some, true_and, and_true, and_false, false_and, not_true_eq_false, not_false_eq_true, true_imp_iff, false_imp_iff, imp_self, or_true, true_or, or_false, false_or, and_self, ite_true, ite_false, if_true, if_false]
          exact ihi
    · rw [b_M_twins_14]
      simp (disch := omega) only [b_M_twins_81, n32_add, n32_mul, n32_lt, n32_le, n32_eq, n32_clamp, n32_inT, n32_div, n32_rem, n32_m1, n32_m1', n32_m1lt, n32_ltm1, n32_10, n32_01, Nat.not_lt_zero, Nat.lt_irrefl, Nat.mul_zero, Nat.zero_mul, Nat.zero_add, Nat.add_zero, Nat.reduceEqDiff, Nat.one_ne_zero, Nat.zero_ne_one, ax_psh_none, ax_psh_some, true_and, and_true, and_false, false_and, not_true_eq_false, not_false_eq_true, true_imp_iff, false_imp_iff, imp_self, or_true, true_or, or_false, false_or, and_self, ite_true, ite_false, if_true, if_false]
      exact ih _
  · intro o3
    rw [b_M_twins_4]
    simp (disch := omega) only [b_M_twins_87, h42, n32_add, n32_mul, n32_lt, n32_le, n32_eq, n32_clamp, n32_inT, n32_div, n32_rem, n32_m1, n32_m1', n32_m1lt, n32_ltm1, n32_10, n32_01, Nat.not_lt_zero, Nat.lt_irrefl, Nat.mul_zero, Nat.zero_mul, Nat.zero_add, Nat.add_zero, Nat.reduceEqDiff, Nat.one_ne_zero, Nat.zero_ne_one, ax_psh_none, ax_psh_some, true_and, and_true, and_false, false_and, not_true_eq_false, not_false_eq_true, true_imp_iff, false_imp_iff, imp_self, or_true, true_or, or_false, false_or, and_self, ite_true, ite_false, if_true, if_false]
    rfl
def R81 (gi : GI) (f : FF) (n : Nat) : Prop := ∀ i, i < n → gi 81 0 i = n32 (f i) ∧ f i < 6
theorem c_M_swaps {d n a b : Nat} {f : FF} {gi : GI} {g : AG} {Q : Option AV → AH → Prop} (hG : GOK g) (hn : n ≤ 6) (ha : a < n) (hb : b < n) (hR : R81 gi f n)
    (hq : ∀ gi', (∀ s x j, s ≠ 81 → gi' s x j = gi s x j) → R81 gi' (swF f a b) n → Q none (gi', g)) :
    ax_call (d + 1) m_M_swaps [.inr (.inr (some (12, 0))), .inl (n32 a), .inl (n32 b)] (gi, g) Q := by
  rw [e_M_swaps, b_M_swaps_0, n32_clamp (by omega), n32_clamp (by omega)]
  refine ⟨G_12_40 hG 0, n32_in (by omega) (by omega), G_12_40 hG 0, G_12_40 hG 0, n32_in (by omega) (by omega), n32_in (by omega) (by omega), G_12_40 hG 0, n32_in (by omega) (by omega), hq _ (fun s x j q => ?_) (fun i hi => ?_)⟩
  · rw [wI_ne q, wI_ne q]
  · unfold swF
    rw [wI_at]
    by_cases q : i = b
    · rw [if_pos ⟨rfl, rfl, q⟩, if_pos q]
      exact hR a ha
    · rw [if_neg (by omega), if_neg q, wI_at]
      by_cases q2 : i = a
      · rw [if_pos ⟨rfl, rfl, q2⟩, if_pos q2]
        exact hR b hb
      · rw [if_neg (by omega), if_neg q2]
        exact hR i hi
