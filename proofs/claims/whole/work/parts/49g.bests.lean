/-! the reference: the best of all rows -/
/-- sorted -/
theorem sort_m {d n : Nat} {f : FF} {gi : GI} {g : AG} {Q : Option AV → AH → Prop} (hG : GOK g) (hn : n ≤ 6) (h42 : gi 12 0 42 = n32 n) (hR : R81 gi f n) (o2 o3 : Option AV)
    (hq : ∀ gi' o2 o3, (∀ s x j, s ≠ 81 → gi' s x j = gi s x j) → R81 gi' (srO f n n) n → Runs (d + 1) (m_M_bests, 59, [some (.inr (.inr (some (12, 0)))), some (.inl (n32 n)), o2, o3], []) (gi', g) Q) :
    Runs (d + 1) (m_M_bests, 6, [some (.inr (.inr (some (12, 0)))), some (.inl (n32 0)), o2, o3], []) (gi, g) Q := by
  have key := loop_up (n := n) (P := fun a => ∀ (gi1 : GI) o2 o3, (∀ s x j, s ≠ 81 → gi1 s x j = gi s x j) → R81 gi1 (srO f n a) n → Runs (d + 1) (m_M_bests, 6, [some (.inr (.inr (some (12, 0)))), some (.inl (n32 a)), o2, o3], []) (gi1, g) Q) (by
    intro a ha ih gi1 o2 o3 f1 hR1
    have inn := loop_up (n := n - (a + 1)) (P := fun j => ∀ gi2 : GI, (∀ s x j, s ≠ 81 → gi2 s x j = gi s x j) → R81 gi2 (srI (srO f n a) a j) n → Runs (d + 1) (m_M_bests, 18, [some (.inr (.inr (some (12, 0)))), some (.inl (n32 a)), some (.inl (n32 (a + 1 + j))), o3], []) (gi2, g) Q) (by
      intro j hj ihj gi2 f2 hR2
      have e42 : gi2 12 0 42 = n32 n := (f2 12 0 42 (by decide)).trans h42
      have a1 := hR2 (a + 1 + j) (by omega)
      have a2 := hR2 a ha
      have es : srI (srO f n a) a (j + 1) = if srI (srO f n a) a j (a + 1 + j) < srI (srO f n a) a j a then swF (srI (srO f n a) a j) a (a + 1 + j) else srI (srO f n a) a j := rfl
      rw [es] at ihj
      rw [b_M_bests_18, e42]
      refine ⟨fun _ => ?_, fun z => absurd (by rw [n32_lt (by omega) (by omega)]; omega) z⟩
      rw [b_M_bests_26, n32_clamp (by omega), n32_clamp (by omega), a1.1, a2.1]
      refine ⟨G_12_40 hG 0, n32_in (by omega) (by omega), G_12_40 hG 0, n32_in (by omega) (by omega), fun z => ?_, fun z => ?_⟩
      · rw [n32_lt (by omega) (by omega)] at z
        rw [if_pos z] at ihj
        rw [b_M_bests_41]
        refine c_M_swaps (d := d) hG hn ha (by omega) hR2 (fun gi3 f3 hR3 => ?_)
        rw [ax_psh_none, b_M_bests_47, n32_add]
        exact ihj gi3 (fun s x j q => (f3 s x j q).trans (f2 s x j q)) hR3
      · rw [n32_lt (by omega) (by omega)] at z
        rw [if_neg z] at ihj
        rw [b_M_bests_47, n32_add]
        exact ihj gi2 f2 hR2) (by
      intro gi2 f2 hR2
      have e42 : gi2 12 0 42 = n32 n := (f2 12 0 42 (by decide)).trans h42
      rw [b_M_bests_18, e42]
      refine ⟨fun z => absurd z (by rw [n32_lt (by omega) (by omega)]; omega), fun _ => ?_⟩
      rw [b_M_bests_53, n32_add]
      exact ih gi2 _ _ f2 hR2)
    have e42 : gi1 12 0 42 = n32 n := (f1 12 0 42 (by decide)).trans h42
    rw [b_M_bests_6, e42]
    refine ⟨fun _ => ?_, fun z => absurd (by rw [n32_lt (by omega) (by omega)]; exact ha) z⟩
    rw [b_M_bests_14, n32_add]
    exact inn 0 (Nat.zero_le _) gi1 f1 hR1) (by
    intro gi1 o2 o3 f1 hR1
    have e42 : gi1 12 0 42 = n32 n := (f1 12 0 42 (by decide)).trans h42
    rw [b_M_bests_6, e42]
    refine ⟨fun z => absurd z (by rw [n32_lt (by omega) (by omega)]; omega), fun _ => ?_⟩
    exact hq gi1 _ _ f1 hR1)
  exact key 0 (Nat.zero_le _) gi _ _ (fun _ _ _ _ => rfl) hR
/-- what stays while rows are tried -/
def FrR (gi gi' : GI) : Prop := ∀ s a j, ¬ (s = 12 ∧ (j = 44 ∨ j = 45)) → s ≠ 81 → s ≠ 83 → gi' s a j = gi s a j
def StrK (gi : GI) (nt ne price n : Nat) (tw : Nat → Nat → Nat) (pl : FF) : Prop := n ≤ 6 ∧ nt ≤ 6 ∧ ne ≤ 9 ∧ price ≤ 999 ∧ (∀ a b, tw a b ≤ 1) ∧ (∀ a b, a < nt → b < nt → tw a b = tw b a) ∧ gi 12 0 42 = n32 n ∧ gi 64 0 794 = n32 ne ∧ gi 64 0 795 = n32 price ∧ (∀ i, i < n → gi 80 0 i = n32 (pl i) ∧ pl i < 10) ∧ (∀ i j, i < j → j < n → pl i < pl j) ∧ (∀ a b, a < nt → b < nt → gi 82 0 (6 * a + b) = n32 (tw a b))
theorem StrK_of {gi gi' : GI} {nt ne price n : Nat} {tw : Nat → Nat → Nat} {pl : FF} (h : StrK gi nt ne price n tw pl) (hf : FrR gi gi') : StrK gi' nt ne price n tw pl := by
  obtain ⟨h1, h2, h3, h4, h5, h6, h7, h8, h9, h10, h11, h12⟩ := h
  exact ⟨h1, h2, h3, h4, h5, h6, (hf 12 0 42 (by omega) (by decide) (by decide)).trans h7, (hf 64 0 794 (by omega) (by decide) (by decide)).trans h8, (hf 64 0 795 (by omega) (by decide) (by decide)).trans h9, fun i hi => ⟨(hf 80 0 i (by omega) (by decide) (by decide)).trans (h10 i hi).1, (h10 i hi).2⟩, h11, fun a b ha hb => (hf 82 0 _ (by omega) (by decide) (by decide)).trans (h12 a b ha hb)⟩
theorem FrR_trans {a b c : GI} (h1 : FrR a b) (h2 : FrR b c) : FrR a c := fun s i j q1 q2 q3 => (h2 s i j q1 q2 q3).trans (h1 s i j q1 q2 q3)
/-- one row -/
theorem row_m {d nt ne price n : Nat} {tw : Nat → Nat → Nat} {pl : FF} {g : AG} {r : List Nat} {x : BS} {gi : GI} {o2 o3 : Option AV} {Q : Option AV → AH → Prop} (hG : GOK g) (hr : ∀ i, i < n → gt r i < nt) (hx : x.1 < 100000) (hx2 : x.2.1 ≤ 36000) (hK : StrK gi nt ne price n tw pl) (hR : R81 gi (gt r) n) (hv : BM gi n x)
    (hq : ∀ (gi' : GI) o1 o2 o3, FrR gi gi' → R81 gi' (gt r) n → BM gi' n (bStep (coF tw ne pl price n) x r) → ax_call (d + 3) m_M_nextRow [.inr (.inr (some (12, 0)))] (gi', g) (fun rr h' => Runs (d + 3) (m_M_bests, 163, [some (.inr (.inr (some (12, 0)))), o1, o2, o3], ax_psh rr []) h' Q)) :
    Runs (d + 3) (m_M_bests, 66, [some (.inr (.inr (some (12, 0)))), some (.inl (n32 1)), o2, o3], []) (gi, g) Q := by
  obtain ⟨hn, hnt, hne, hpr, htw, hsym, k42, k794, k795, k80, kinc, k82⟩ := id hK
  have hco := coF_le (ne := ne) (pl := pl) (n := n) (r := r) htw hpr hn
  have c795 : (n32 795).toNatClampNeg = 795 := by decide
  rw [b_M_bests_66]
  refine ⟨fun z => absurd z (by decide), fun _ => ?_⟩
  rw [b_M_bests_70, c795, k795]
  refine ⟨G_12_3 hG 0, n32_in (by omega) (by omega), ?_⟩
  rw [c_M_twins (d := d + 2) (tw := tw) (pl := pl) (r := gt r) hG hnt hn hne k42 k80 kinc (fun i hi => ⟨(hR i hi).1, hr i hi⟩) k794 k82 htw hsym]
  simp only [ax_psh_some]
  rw [b_M_bests_82, n32_mul, hv.1]
  -- counted or not
  have fin : ∀ (gi1 : GI) o1 o3, FrR gi gi1 → R81 gi1 (gt r) n → gi1 12 0 44 = n32 (bStep (coF tw ne pl price n) x r).2.1 → (bStep (coF tw ne pl price n) x r).2.1 ≤ 36000 → (∃ k, gi1 12 0 45 = n32 k ∧ (bStep (coF tw ne pl price n) x r).1 = if coF tw ne pl price n r = (bStep (coF tw ne pl price n) x r).2.1 then k + 1 else k) → (∀ u, u < n → gi1 83 0 u = n32 (gt (bStep (coF tw ne pl price n) x r).2.2 u)) → Runs (d + 3) (m_M_bests, 137, [some (.inr (.inr (some (12, 0)))), o1, some (.inl (n32 (coF tw ne pl price n r))), o3], []) (gi1, g) Q := by
    intro gi1 o1 o3 f1 hR1 q44 hle q45 q83
    obtain ⟨k, q45, ek⟩ := q45
    have step : ∀ e : Nat, (bStep (coF tw ne pl price n) x r).1 = k + e → Runs (d + 3) (m_M_bests, 155, [some (.inr (.inr (some (12, 0)))), o1, some (.inl (n32 (coF tw ne pl price n r))), o3], [.inl (n32 e), .inl (n32 k), .inr (.inr (some (12, 0)))]) (gi1, g) Q := by
      intro e he
      rw [b_M_bests_155, n32_add, ← he]
      refine hq _ _ _ _ (fun s a j q1 q2 q3 => ?_) (fun i hi => ?_) ⟨wI_self _ _ _ _ _, fun _ => ?_, fun _ u hu => ?_⟩
      · rw [wI_at, if_neg (by omega)]
        exact f1 s a j q1 q2 q3
      · rw [wI_ne (by decide)]
        exact hR1 i hi
      · rw [wI_at, if_neg (by omega)]
        exact q44
      · rw [wI_ne (by decide)]
        exact q83 u hu
    rw [b_M_bests_137, q44, q45]
    refine ⟨fun z => ?_, fun z => ?_⟩
    · rw [n32_eq (by omega) (by omega)] at z
      rw [b_M_bests_150]
      exact step 1 (by rw [ek, if_pos z])
    · rw [n32_eq (by omega) (by omega)] at z
      rw [b_M_bests_154]
      exact step 0 (by rw [ek, if_neg z]; rfl)
  -- a better one
  have better : ∀ o1, (x.1 = 0 ∨ coF tw ne pl price n r < x.2.1) → Runs (d + 3) (m_M_bests, 99, [some (.inr (.inr (some (12, 0)))), o1, some (.inl (n32 (coF tw ne pl price n r))), o3], []) (gi, g) Q := by
    intro o1 hz
    have eb : bStep (coF tw ne pl price n) x r = (1, coF tw ne pl price n r, r) := by
      unfold bStep
      rw [if_pos hz]
    have lp := loop_up (n := n) (P := fun i => ∀ gi1 : GI, FrR gi gi1 → R81 gi1 (gt r) n → gi1 12 0 44 = n32 (coF tw ne pl price n r) → gi1 12 0 45 = n32 0 → (∀ u, u < i → gi1 83 0 u = n32 (gt r u)) → Runs (d + 3) (m_M_bests, 111, [some (.inr (.inr (some (12, 0)))), o1, some (.inl (n32 (coF tw ne pl price n r))), some (.inl (n32 i))], []) (gi1, g) Q) (by
      intro i hi ih gi1 f1 hR1 q44 q45 q83
      have e42 : gi1 12 0 42 = n32 n := (StrK_of hK f1).2.2.2.2.2.2.1
      rw [b_M_bests_111, e42]
      refine ⟨fun _ => ?_, fun z => absurd (by rw [n32_lt (by omega) (by omega)]; exact hi) z⟩
      rw [b_M_bests_119, n32_clamp (by omega), (hR1 i hi).1, n32_add]
      refine ⟨G_12_43 hG 0, G_12_40 hG 0, n32_in (by omega) (by omega), n32_in (by omega) (by omega), ih _ (fun s a j q1 q2 q3 => ?_) (fun u hu => ?_) ?_ ?_ (fun u hu => ?_)⟩
      · rw [wI_ne q3]
        exact f1 s a j q1 q2 q3
      · rw [wI_ne (by decide)]
        exact hR1 u hu
      · rw [wI_ne (by decide)]
        exact q44
      · rw [wI_ne (by decide)]
        exact q45
      · rw [wI_at]
        by_cases q : u = i
        · rw [if_pos ⟨rfl, rfl, q⟩, q]
        · rw [if_neg (by omega)]
          exact q83 u (by omega)) (by
      intro gi1 f1 hR1 q44 q45 q83
      have e42 : gi1 12 0 42 = n32 n := (StrK_of hK f1).2.2.2.2.2.2.1
      rw [b_M_bests_111, e42]
      refine ⟨fun z => absurd z (by rw [n32_lt (by omega) (by omega)]; omega), fun _ => ?_⟩
      refine fin gi1 _ _ f1 hR1 ?_ ?_ ⟨0, q45, ?_⟩ ?_
      · rw [eb]
        exact q44
      · rw [eb]
        exact hco
      · rw [eb, if_pos rfl]
      · rw [eb]
        exact q83)
    rw [b_M_bests_99]
    refine lp 0 (Nat.zero_le _) _ (fun s a j q1 q2 q3 => ?_) (fun i hi => ?_) ?_ (wI_self _ _ _ _ _) (fun u hu => absurd hu (Nat.not_lt_zero u))
    · rw [wI_at, if_neg (by omega), wI_at, if_neg (by omega)]
    · rw [wI_ne (by decide), wI_ne (by decide)]
      exact hR i hi
    · rw [wI_at, if_neg (by omega), wI_self]
  refine ⟨fun z => ?_, fun z => ?_⟩
  · rw [n32_eq (by omega) (by omega)] at z
    exact better _ (Or.inl z)
  · rw [n32_eq (by omega) (by omega)] at z
    have hpos : 0 < x.1 := by omega
    show Runs (d + 3) (m_M_bests, 91, [some (.inr (.inr (some (12, 0)))), ax_kl (some (.inl (n32 1))), some (.inl (n32 (coF tw ne pl price n r))), o3], []) (gi, g) Q
    rw [b_M_bests_91, hv.2.1 hpos]
    refine ⟨fun y => ?_, fun y => ?_⟩
    · rw [n32_lt (by omega) (by omega)] at y
      exact better _ (Or.inr y)
    · rw [n32_lt (by omega) (by omega)] at y
      by_cases w : coF tw ne pl price n r = x.2.1
      · have eb : bStep (coF tw ne pl price n) x r = (x.1 + 1, x.2.1, x.2.2) := by
          unfold bStep
          rw [if_neg (by omega), if_pos w]
        refine fin gi _ _ (fun _ _ _ _ _ _ => rfl) hR ?_ ?_ ⟨x.1, hv.1, ?_⟩ ?_
        · rw [eb]
          exact hv.2.1 hpos
        · rw [eb]
          exact hx2
        · rw [eb, if_pos w]
        · rw [eb]
          exact hv.2.2 hpos
      · have eb : bStep (coF tw ne pl price n) x r = x := by
          unfold bStep
          rw [if_neg (by omega), if_neg w]
        refine fin gi _ _ (fun _ _ _ _ _ _ => rfl) hR ?_ ?_ ⟨x.1, hv.1, ?_⟩ ?_
        · rw [eb]
          exact hv.2.1 hpos
        · rw [eb]
          exact hx2
        · rw [eb, if_neg w]
        · rw [eb]
          exact hv.2.2 hpos
theorem rows_m {d nt ne price n : Nat} {tw : Nat → Nat → Nat} {pl : FF} {g : AG} {Q : Option AV → AH → Prop} (hG : GOK g) : ∀ (l : List (List Nat)) (r : List Nat) (x : BS) (gi : GI) (o2 o3 : Option AV), chain n (r :: l) = true → (∀ r', r' ∈ r :: l → ∀ i, i < n → gt r' i < nt) → x.1 + (l.length + 1) ≤ 100000 → x.2.1 ≤ 36000 → StrK gi nt ne price n tw pl → R81 gi (gt r) n → BM gi n x →
    (∀ gi', FrR gi gi' → BM gi' n ((r :: l).foldl (bStep (coF tw ne pl price n)) x) → Q none (gi', g)) →
    Runs (d + 3) (m_M_bests, 66, [some (.inr (.inr (some (12, 0)))), some (.inl (n32 1)), o2, o3], []) (gi, g) Q := by
  intro l
  induction l with
  | nil =>
    intro r x gi o2 o3 hch hmem hx hx2 hK hR hv hq
    have hch : (nxF (gt r) n).isNone = true := hch
    refine row_m hG (hmem r List.mem_cons_self) (by omega) hx2 hK hR hv (fun gi1 o1 o2 o3 f1 hR1 hv1 => ?_)
    refine c_M_nextRow (d := d + 1) hG hK.1 (StrK_of hK f1).2.2.2.2.2.2.1 hR1 (fun hz => ?_) (fun f' gi3 hz f3 hR3 => ?_)
    · simp only [ax_psh_some]
      rw [b_M_bests_163, b_M_bests_66]
      refine ⟨fun _ => ?_, fun z => absurd rfl z⟩
      rw [b_M_bests_167]
      exact hq gi1 f1 hv1
    · rw [hz] at hch
      exact absurd hch (by simp)
  | cons r2 l ih =>
    intro r x gi o2 o3 hch hmem hx hx2 hK hR hv hq
    have hch : ((match nxF (gt r) n with
      | some f => eqL (rowL f n) r2
      | none => false) && chain n (r2 :: l)) = true := hch
    rw [Bool.and_eq_true] at hch
    obtain ⟨hc1, hc2⟩ := hch
    have hcr : ∀ r : List Nat, coF tw ne pl price n r ≤ 36000 := fun r => coF_le hK.2.2.2.2.1 hK.2.2.2.1 hK.1
    have hb1 : (bStep (coF tw ne pl price n) x r).1 ≤ x.1 + 1 := bs1_le (l := [r])
    have hb2 : (bStep (coF tw ne pl price n) x r).2.1 ≤ 36000 := bs2_le hcr (l := [r]) hx2
    rw [List.length_cons] at hx
    refine row_m hG (hmem r List.mem_cons_self) (by omega) hx2 hK hR hv (fun gi1 o1 o2 o3 f1 hR1 hv1 => ?_)
    refine c_M_nextRow (d := d + 1) hG hK.1 (StrK_of hK f1).2.2.2.2.2.2.1 hR1 (fun hz => ?_) (fun f' gi3 hz f3 hR3 => ?_)
    · rw [hz] at hc1
      exact absurd hc1 (by simp)
    · rw [hz] at hc1
      have hc1 : rowL f' n = r2 := eqL_eq hc1
      have f13 : FrR gi gi3 := fun s a j q1 q2 q3 => (f3 s a j q2).trans (f1 s a j q1 q2 q3)
      have hR3' : R81 gi3 (gt r2) n := fun i hi => by
        have e : gt r2 i = f' i := by
          unfold gt
          rw [← hc1, rowL_get hi]
        rw [e]
        exact hR3 i hi
      simp only [ax_psh_some]
      rw [b_M_bests_163]
      refine ih r2 (bStep (coF tw ne pl price n) x r) gi3 _ _ hc2 (fun r' h' => hmem r' (List.mem_cons_of_mem _ h')) (by omega) hb2 (StrK_of hK f13) hR3' ⟨(f3 12 0 45 (by decide)).trans hv1.1, fun q => (f3 12 0 44 (by decide)).trans (hv1.2.1 q), fun q u hu => (f3 83 0 u (by decide)).trans (hv1.2.2 q u hu)⟩ (fun gi4 f4 hv4 => hq gi4 (FrR_trans f13 f4) hv4)
theorem c_M_bests {d nt m : Nat} {gi : GI} {g : AG} {Ls : Nat → List PC} {Q : Option AV → AH → Prop} (hB : BK gi g Ls nt m (gi 64 0))
    (hq : ∀ gi', Fr msMod gi gi' → BM gi' (nK (gi 64 0) nt) (bestK (gi 64 0) nt) → gi' 12 0 42 = n32 (nK (gi 64 0) nt) → (∀ i, i < nK (gi 64 0) nt → gi' 80 0 i = n32 ((plK (gi 64 0) nt 10).getD i 0)) → Q none (gi', g)) :
    ax_call (d + 6) m_M_bests [.inr (.inr (some (12, 0)))] (gi, g) Q := by
  have hG := hB.2.1
  have n6 := hB.2.2.1.1
  have hn := nK_le (K := gi 64 0) n6
  have hpl : (plK (gi 64 0) nt 10).length = nK (gi 64 0) nt := pt_len (gi 64 0) nt 10
  obtain ⟨-, -, ⟨t1, t2, t3⟩, ⟨t4, t5⟩⟩ := terms_k hB.2.2.1.2.2.2.2.2.2.2.2.1
  rw [e_M_bests, b_M_bests_0]
  refine c_M_laysStreet (d := d) hB (fun gi1 fr1 hs => ?_)
  obtain ⟨s42, s80, s82⟩ := hs
  rw [ax_psh_none, b_M_bests_4]
  have hth : ∀ i, i < nK (gi 64 0) nt → gt (thK (gi 64 0) nt 10) i < nt := fun i hi => by
    have hm : (thK (gi 64 0) nt 10).getD i 0 ∈ thK (gi 64 0) nt 10 := by
      rw [List.getD_eq_getElem?_getD, List.getElem?_eq_getElem hi]
      exact List.getElem_mem _
    exact (thK_mem hm).1
  refine sort_m (f := gt (thK (gi 64 0) nt 10)) hG hn s42 (fun i hi => ⟨(s80 i hi).2, by have := hth i hi; omega⟩) _ _ (fun gi2 o2 o3 f2 hR2 => ?_)
  obtain ⟨hch, ⟨l, hl⟩, hso⟩ := rowsK (K := gi 64 0) n6
  rw [b_M_bests_59]
  rw [hl] at hch
  have hplen := prm_len (k := nK (gi 64 0) nt) (S := inK (gi 64 0) nt)
  rw [hl, List.length_cons] at hplen
  have hpow : 6 ^ nK (gi 64 0) nt ≤ 6 ^ 6 := Nat.pow_le_pow_right (by omega) hn
  have e66 : 6 ^ 6 = 46656 := rfl
  refine rows_m (nt := nt) (ne := nek (gi 64 0)) (price := twk (gi 64 0)) (n := nK (gi 64 0) nt) (tw := twK (gi 64 0)) (pl := gt (plK (gi 64 0) nt 10)) hG l (sbF (inK (gi 64 0) nt) 6) (0, 0, []) _ _ _ hch (fun r' hr' i hi => ?_) (by simp only; omega) (Nat.zero_le _) ⟨hn, n6, t3, t5, twK_le _, fun a b ha hb => twK_sym hB ha hb, ?_, ?_, ?_, fun i hi => ⟨?_, plK_lt (by omega)⟩, fun i j hij hj => plK_inc hij (by omega), fun a b ha hb => ?_⟩ (fun i hi => ?_) ⟨wI_self _ _ _ _ _, fun q => absurd q (Nat.lt_irrefl 0), fun q => absurd q (Nat.lt_irrefl 0)⟩ (fun gi3 f3 hv3 => ?_)
  · rw [← hl] at hr'
    have := (prm_mem hr').2 i hi
    exact (thK_mem (of_decide_eq_true this.2)).1
  · rw [wI_at, if_neg (by omega), f2 12 0 42 (by decide), s42]
  · rw [wI_ne (by decide), f2 64 0 794 (by decide), fr1 64 0 794 rfl, t1]
  · rw [wI_ne (by decide), f2 64 0 795 (by decide), fr1 64 0 795 rfl, t4]
  · rw [wI_ne (by decide), f2 80 0 i (by decide)]
    exact (s80 i hi).1
  · rw [wI_ne (by decide), f2 82 0 _ (by decide)]
    exact s82 a b ha hb
  · rw [wI_ne (by decide)]
    have e : gt (sbF (inK (gi 64 0) nt) 6) i = srO (gt (thK (gi 64 0) nt 10)) (nK (gi 64 0) nt) (nK (gi 64 0) nt) i := by
      unfold gt
      rw [← hso, rowL_get hi]
      rfl
    rw [e]
    exact hR2 i hi
  · rw [← hl] at hv3
    refine hq gi3 (fun s a j q => ?_) hv3 ?_ (fun i hi => ?_)
    · have := msMod_f q
      rw [f3 s a j (by omega) (by omega) (by omega), wI_at, if_neg (by omega), f2 s a j (by omega)]
      exact fr1 s a j q
    · rw [f3 12 0 42 (by omega) (by decide) (by decide), wI_at, if_neg (by omega), f2 12 0 42 (by decide), s42]
    · rw [f3 80 0 i (by omega) (by decide) (by decide), wI_ne (by decide), f2 80 0 i (by decide)]
      exact (s80 i hi).1
theorem best_pos {K : Nat → Int32} {nt : Nat} (n6 : nt ≤ 6) : 0 < (bestK K nt).1 := by
  have pos : ∀ (co : List Nat → Nat) (l : List (List Nat)) (x : BS), 0 < x.1 → 0 < (l.foldl (bStep co) x).1 := by
    intro co l
    induction l with
    | nil => exact fun _ h => h
    | cons r l ih =>
      intro x h
      refine ih _ ?_
      unfold bStep
      split
      · exact Nat.one_pos
      · split
        · exact Nat.succ_pos _
        · exact h
  obtain ⟨-, ⟨l, hl⟩, -⟩ := rowsK (K := K) n6
  unfold bestK
  rw [hl]
  refine pos _ l _ ?_
  show 0 < (bStep _ (0, 0, []) _).1
  unfold bStep
  rw [if_pos (Or.inl rfl)]
  exact Nat.one_pos
