/-! a law made: of what was read -/
theorem CsAt_cong {f1 f2 f3 f4 f5 h1 h2 h3 h4 h5 : Nat → Int32} : ∀ {l : List PC} {n s : Nat}, CsAt f1 f2 f3 f4 f5 n s l → (∀ j, j ≤ n + l.length → h1 j = f1 j) → (∀ j, j < n + l.length → h2 j = f2 j) → (∀ j, j < n + l.length → h3 j = f3 j) → (∀ j, j < s + lenL l → h4 j = f4 j) → (∀ j, j < s + lenL l → h5 j = f5 j) → CsAt h1 h2 h3 h4 h5 n s l
  | [], _, _, _, _, _, _, _, _ => trivial
  | C :: l, n, s, h, e1, e2, e3, e4, e5 => by
    simp only [List.length_cons, lenL] at e1 e2 e3 e4 e5
    exact ⟨(e1 _ (by omega)).trans h.1, (e2 _ (by omega)).trans h.2.1, (e3 _ (by omega)).trans h.2.2.1, CodeAt_congr h.2.2.2.1 (fun j _ q => ⟨e4 j (by omega), e5 j (by omega)⟩), (e1 _ (by omega)).trans h.2.2.2.2.1, CsAt_cong h.2.2.2.2.2 (fun j hj => e1 j (by omega)) (fun j hj => e2 j (by omega)) (fun j hj => e3 j (by omega)) (fun j hj => e4 j (by omega)) (fun j hj => e5 j (by omega))⟩
theorem CsAt_bool {f1 f2 f3 f4 f5 : Nat → Int32} : ∀ {l : List PC} {n s : Nat}, CsAt f1 f2 f3 f4 f5 n s l → ∀ i, i < l.length → (f2 (n + i) = n32 0 ∨ f2 (n + i) = n32 1) ∧ (f3 (n + i) = n32 0 ∨ f3 (n + i) = n32 1)
  | [], _, _, _, i, hi => absurd hi (Nat.not_lt_zero i)
  | C :: l, n, s, h, 0, _ => by
    rw [Nat.add_zero, h.2.1, h.2.2.1]
    exact ⟨b32_d _, b32_d _⟩
  | C :: l, n, s, h, i + 1, hi => by
    have := CsAt_bool h.2.2.2.2.2 i (by simpa using hi)
    rw [show n + 1 + i = n + (i + 1) by omega] at this
    exact this
theorem c_Law_init {d q : Nat} {gi : GI} {g : AG} {Q : Option AV → AH → Prop} {l : List PC} (hG : GOK g) (n4 : g.2.1 4 = q + 1) (n60 : g.2.1 60 = q) (n61 : g.2.1 61 = q) (n62 : g.2.1 62 = 3 * q) (hn : gi 6 0 7 = n32 l.length) (hz : gi 6 0 8 = n32 (lenL l)) (h12 : l.length ≤ 12) (h400 : lenL l ≤ 400) (hC : CsAt (gi 34 0) (gi 35 0) (gi 36 0) (gi 37 0) (gi 38 0) 0 0 l)
    (hq : ∀ gi' g', LawI gi gi' q → (∀ s a j, s ≠ 4 → s ≠ 60 → s ≠ 61 → s ≠ 62 → g'.1 s a j = g.1 s a j) → (∀ a j, a ≠ q → g'.1 4 a j = g.1 4 a j) → (∀ s a, ¬ (s = 60 ∧ a = q) → ¬ (s = 61 ∧ a = q) → ¬ (s = 62 ∧ 3 * q ≤ a) → g'.2.2.1 s a = g.2.2.1 s a) → (GN g' (q + 1) ∧ ∀ s, s ≠ 4 → s ≠ 60 → s ≠ 61 → s ≠ 62 → g'.2.1 s = g.2.1 s) → g'.2.2.2.1 = g.2.2.2.1 + 5 → g'.2.2.2.2 = g.2.2.2.2 + (3 * l.length + 1 + 2 * lenL l) → LawObj gi' g' q l → Q none (gi', g')) :
    ax_call (d + 2) m_Law_init [.inr (.inr (some (4, q))), .inr (.inr (some (6, 0)))] (gi, g) Q := by
  have hb := CsAt_bool hC
  have n0 : ¬ n32 0 < n32 0 := by decide
  have c0 : (n32 0).toNatClampNeg = 0 := by decide
  have nl : ¬ n32 l.length < n32 0 := by
    rw [n32_neg (by omega)]
    exact id
  have cl : (n32 l.length).toNatClampNeg = l.length := n32_clamp (by omega)
  rw [e_Law_init]
  simp (disch := omega) only [b_Law_init_0, G_0_0 hG, G_0_1 hG, G_0_2 hG, G_0_3 hG, G_0_7 hG, G_0_10 hG, G_0_12 hG, G_0_13 hG, G_0_14 hG, G_0_15 hG, G_0_16 hG, G_0_17 hG, G_1_0 hG, G_1_2 hG, G_1_5 hG, G_2_4 hG, G_2_5 hG, G_3_5 hG, G_3_6 hG, G_3_7 hG, G_3_8 hG, G_3_9 hG, G_5_0 hG, G_5_1 hG, G_6_0 hG, G_6_1 hG, G_6_2 hG, G_6_9 hG, G_6_10 hG, G_6_11 hG, G_6_12 hG, G_6_13 hG, G_7_0 hG, G_7_5 hG, G_8_8 hG, G_8_9 hG, G_9_8 hG, G_9_9 hG, G_10_7 hG, G_10_8 hG, G_10_9 hG, G_10_10 hG, G_10_11 hG, G_11_0 hG, G_12_2 hG, G_12_3 hG, G_12_4 hG, G_12_5 hG, G_12_7 hG, G_12_8 hG, G_12_9 hG, G_12_12 hG, G_12_13 hG, G_12_14 hG, G_12_22 hG, G_12_23 hG, G_12_29 hG, G_12_30 hG, G_12_31 hG, G_12_37 hG, G_12_38 hG, G_12_39 hG, G_12_40 hG, G_12_41 hG, G_12_43 hG, G_12_46 hG, G_12_47 hG, G_12_48 hG, G_25 hG, G_26 hG, G_47 hG, G_58 hG, hn, wI_at, n32_add, n32_mul, n32_lt, n32_le, n32_eq, n32_clamp, n32_inT, n32_div, n32_rem, n32_m1, n32_m1', n32_m1lt, n32_ltm1, n32_10, n32_01, Nat.not_lt_zero, Nat.lt_irrefl, Nat.mul_zero, Nat.zero_mul, Nat.zero_add, Nat.add_zero, Nat.reduceEqDiff, Nat.one_ne_zero, Nat.zero_ne_one, ax_psh_none, ax_psh_some, true_and, and_true, and_false, false_and, not_true_eq_false, not_false_eq_true, true_imp_iff, false_imp_iff, imp_self, or_true, true_or, or_false, false_or, and_self, ite_true, ite_false, if_true, if_false, reduceIte, Nat.reduceEqDiff, Nat.reduceLT, Nat.reduceAdd, Nat.reduceMul, Nat.reduceSub, Nat.reduceDiv, Nat.reduceMod, Nat.reduceLeDiff]
  have o1 : OnlyI gi (ax_wI gi 4 q 0 (n32 l.length)) 4 q := fun s a j h => by rw [wI_at, if_neg (fun z => h ⟨z.1, z.2.1⟩)]
  have v1 : ax_wI gi 4 q 0 (n32 l.length) 4 q 0 = n32 l.length := by simp [wI_at]
  generalize ax_wI gi 4 q 0 (n32 l.length) = gi1 at *
  apply c_copy34 (w := 3 * q) n62 (by omega)
  intro gi2 g2 o2 k2 ng2
  simp only [ax_psh_none, ax_psh_some, true_and, and_true, and_false, false_and, not_true_eq_false, not_false_eq_true, true_imp_iff, false_imp_iff, imp_self, or_true, true_or, or_false, false_or, and_self, ite_true, ite_false, if_true, if_false]
  have v2 : gi2 4 q 0 = n32 l.length := (o2 4 q 0 (by omega)).trans v1
  rw [b_Law_init_26, v2, cl]
  refine ⟨⟨nl, by omega⟩, ?_⟩
  have m60 : g2.2.1 60 = q := by rw [ng2.2.1, if_neg (by decide), n60]
  obtain ⟨g3, e3, ng3⟩ := new_g gi2 (ax_wR g2.1 4 q 1 (some (62, 3 * q)), g2.2) 60 l.length
  rw [e3, m60]
  simp only [m60] at ng3
  have o3 := onlyI_z gi2 60 q l.length
  generalize ax_zI gi2 60 q l.length = gi3 at *
  have v3 : gi3 4 q 0 = n32 l.length := (o3 4 q 0 (by omega)).trans v2
  rw [b_Law_init_36, v3, cl]
  refine ⟨⟨nl, by omega⟩, ?_⟩
  have m61 : g3.2.1 61 = q := by
    rw [ng3.2.1, if_neg (by decide)]
    show g2.2.1 61 = q
    rw [ng2.2.1, if_neg (by decide), n61]
  obtain ⟨g4, e4, ng4⟩ := new_g gi3 (ax_wR g3.1 4 q 2 (some (60, q)), g3.2) 61 l.length
  rw [e4, m61]
  simp only [m61] at ng4
  have o4 := onlyI_z gi3 61 q l.length
  generalize ax_zI gi3 61 q l.length = gi4 at *
  have v4 : gi4 4 q 0 = n32 l.length := (o4 4 q 0 (by omega)).trans v3
  have l60 : g4.2.2.1 60 q = l.length := by
    rw [ng4.2.2.1, if_neg (by omega)]
    show g3.2.2.1 60 q = _
    rw [ng3.2.2.1, if_pos ⟨rfl, rfl⟩]
  have l61 : g4.2.2.1 61 q = l.length := by
    rw [ng4.2.2.1, if_pos ⟨rfl, rfl⟩]
  have p4 : ∀ s a j, s ≠ 4 → s ≠ 60 → s ≠ 61 → s ≠ 62 → g4.1 s a j = g.1 s a j := by
    intro s a j h1 h2 h3 h4
    rw [ng4.1 s a j (by omega)]
    show ax_wR g3.1 4 q 2 (some (60, q)) s a j = _
    rw [wR_at, if_neg (by omega), ng3.1 s a j (by omega)]
    show ax_wR g2.1 4 q 1 (some (62, 3 * q)) s a j = _
    rw [wR_at, if_neg (by omega), ng2.1 s a j (by omega)]
  have hG4 : GOK g4 := GOK_of hG (fun s a j h1 h2 h3 h4 _ => p4 s a j h1 h2 h3 h4)
  have r60 : g4.1 4 q 2 = some (60, q) := by
    rw [ng4.1 4 q 2 (by omega)]
    show ax_wR g3.1 4 q 2 (some (60, q)) 4 q 2 = _
    rw [wR_at, if_pos ⟨rfl, rfl, rfl⟩]
  have r62 : g4.1 4 q 1 = some (62, 3 * q) := by
    rw [ng4.1 4 q 1 (by omega)]
    show ax_wR g3.1 4 q 2 (some (60, q)) 4 q 1 = _
    rw [wR_at, if_neg (by omega), ng3.1 4 q 1 (by omega)]
    show ax_wR g2.1 4 q 1 (some (62, 3 * q)) 4 q 1 = _
    rw [wR_at, if_pos ⟨rfl, rfl, rfl⟩]
  have b35 : ∀ j, gi4 35 0 j = gi 35 0 j := fun j => by rw [o4 35 0 j (by omega), o3 35 0 j (by omega), o2 35 0 j (by omega), o1 35 0 j (by omega)]
  have b36 : ∀ j, gi4 36 0 j = gi 36 0 j := fun j => by rw [o4 36 0 j (by omega), o3 36 0 j (by omega), o2 36 0 j (by omega), o1 36 0 j (by omega)]
  have b37 : ∀ j, gi4 37 0 j = gi 37 0 j := fun j => by rw [o4 37 0 j (by omega), o3 37 0 j (by omega), o2 37 0 j (by omega), o1 37 0 j (by omega)]
  have b38 : ∀ j, gi4 38 0 j = gi 38 0 j := fun j => by rw [o4 38 0 j (by omega), o3 38 0 j (by omega), o2 38 0 j (by omega), o1 38 0 j (by omega)]
  have bz : gi4 6 0 8 = n32 (lenL l) := by rw [o4 6 0 8 (by omega), o3 6 0 8 (by omega), o2 6 0 8 (by omega), o1 6 0 8 (by omega), hz]
  rw [b_Law_init_46, v4, cl, c0]
  have w4 : ax_cI gi4 35 0 0 60 q 0 l.length 4 q 0 = n32 l.length := by rw [cI_at, if_neg (by omega), v4]
  have w36 : ∀ j, ax_cI gi4 35 0 0 60 q 0 l.length 36 0 j = gi 36 0 j := fun j => by rw [cI_at, if_neg (by omega), b36]
  rw [w4, cl]
  refine ⟨?_, ?_, ⟨⟨n0, n0, nl, by omega, by omega⟩, Or.inr ?_⟩, ?_, ?_, ⟨⟨n0, n0, nl, by omega, by omega⟩, Or.inr ?_⟩, ?_, ?_⟩
  · rw [wR_at, if_neg (by omega)]
    exact G_6_10 hG4 0
  · rw [wR_at, if_neg (by omega)]
    exact r60
  · intro i hi
    rw [b35]
    exact (hb i hi).1
  · rw [wR_at, if_neg (by omega)]
    exact G_6_11 hG4 0
  · rw [wR_at, if_pos ⟨rfl, rfl, rfl⟩]
  · intro i hi
    rw [w36]
    exact (hb i hi).2
  · rw [wR_at, if_neg (by omega)]
    exact G_6_12 hG4 0
  -- spares and tested copied
  have x5 : ∃ gi5 : GI, gi5 = ax_cI (ax_cI gi4 35 0 0 60 q 0 l.length) 36 0 0 61 q 0 l.length ∧ (∀ s a j, ¬ (s = 60 ∧ a = q) → ¬ (s = 61 ∧ a = q) → gi5 s a j = gi4 s a j) ∧ (∀ j, j < l.length → gi5 60 q j = gi 35 0 j ∧ gi5 61 q j = gi 36 0 j) := by
    refine ⟨_, rfl, ?_, ?_⟩
    · intro s a j h1 h2
      rw [cI_at, if_neg (fun z => h2 ⟨z.1, z.2.1⟩), cI_at, if_neg (fun z => h1 ⟨z.1, z.2.1⟩)]
    · intro j hj
      refine ⟨?_, ?_⟩
      · rw [cI_at, if_neg (by omega), cI_at, if_pos ⟨rfl, rfl, by omega, by omega⟩, b35]
        congr 1
        omega
      · rw [cI_at, if_pos ⟨rfl, rfl, by omega, by omega⟩, w36]
        congr 1
        omega
  obtain ⟨gi5, e5, o5, k5⟩ := x5
  rw [← e5, o5 6 0 8 (by omega) (by omega), bz]
  have m62 : g4.2.1 62 = 3 * q + 1 := by
    rw [ng4.2.1, if_neg (by decide)]
    show g3.2.1 62 = _
    rw [ng3.2.1, if_neg (by decide)]
    show g2.2.1 62 = _
    rw [ng2.2.1, if_pos rfl]
  apply c_copy37 (w := 3 * q + 1) (g := (ax_wR g4.1 4 q 3 (some (61, q)), g4.2)) m62 (by omega)
  intro gi6 g6 o6 k6 ng6
  simp only [ax_psh_none, ax_psh_some, true_and, and_true, and_false, false_and, not_true_eq_false, not_false_eq_true, true_imp_iff, false_imp_iff, imp_self, or_true, true_or, or_false, false_or, and_self, ite_true, ite_false, if_true, if_false]
  rw [b_Law_init_95]
  have p6 : ∀ s a j, s ≠ 4 → s ≠ 60 → s ≠ 61 → s ≠ 62 → g6.1 s a j = g.1 s a j := by
    intro s a j h1 h2 h3 h4
    rw [ng6.1 s a j (by omega)]
    show ax_wR g4.1 4 q 3 (some (61, q)) s a j = _
    rw [wR_at, if_neg (by omega)]
    exact p4 s a j h1 h2 h3 h4
  refine ⟨?_, ?_⟩
  · rw [wR_at, if_neg (by omega), p6 6 0 13 (by decide) (by decide) (by decide) (by decide)]
    exact G_6_13 hG 0
  have z6 : gi6 6 0 8 = n32 (lenL l) := by rw [o6 6 0 8 (by omega), o5 6 0 8 (by omega) (by omega), bz]
  rw [z6]
  have m62b : g6.2.1 62 = 3 * q + 2 := by
    rw [ng6.2.1, if_pos rfl]
  apply c_copy38 (w := 3 * q + 2) (g := (ax_wR g6.1 4 q 4 (some (62, 3 * q + 1)), g6.2)) m62b (by omega)
  intro gi7 g7 o7 k7 ng7
  simp only [ax_psh_none, ax_psh_some, true_and, and_true, and_false, false_and, not_true_eq_false, not_false_eq_true, true_imp_iff, false_imp_iff, imp_self, or_true, true_or, or_false, false_or, and_self, ite_true, ite_false, if_true, if_false]
  rw [b_Law_init_110]
  have p7 : ∀ s a j, s ≠ 4 → s ≠ 60 → s ≠ 61 → s ≠ 62 → g7.1 s a j = g.1 s a j := by
    intro s a j h1 h2 h3 h4
    rw [ng7.1 s a j (by omega)]
    show ax_wR g6.1 4 q 4 (some (62, 3 * q + 1)) s a j = _
    rw [wR_at, if_neg (by omega)]
    exact p6 s a j h1 h2 h3 h4
  have len7 : ∀ s a, g7.2.2.1 s a = if s = 62 ∧ a = 3 * q + 2 then lenL l else if s = 62 ∧ a = 3 * q + 1 then lenL l else if s = 61 ∧ a = q then l.length else if s = 60 ∧ a = q then l.length else if s = 62 ∧ a = 3 * q then l.length + 1 else g.2.2.1 s a := by
    intro s a
    rw [ng7.2.2.1]
    congr 1
    show g6.2.2.1 s a = _
    rw [ng6.2.2.1]
    congr 1
    show g4.2.2.1 s a = _
    rw [ng4.2.2.1]
    congr 1
    show g3.2.2.1 s a = _
    rw [ng3.2.2.1]
    congr 1
    show g2.2.2.1 s a = _
    rw [ng2.2.2.1]
  have f4 : ∀ j, g7.1 4 q j = if j = 4 then some (62, 3 * q + 1) else if j = 3 then some (61, q) else if j = 2 then some (60, q) else if j = 1 then some (62, 3 * q) else g.1 4 q j := by
    intro j
    rw [ng7.1 4 q j (by omega)]
    show ax_wR g6.1 4 q 4 (some (62, 3 * q + 1)) 4 q j = _
    rw [wR_at]
    by_cases z4 : j = 4
    · rw [if_pos ⟨rfl, rfl, z4⟩, if_pos z4]
    · rw [if_neg (by omega), if_neg z4, ng6.1 4 q j (by omega)]
      show ax_wR g4.1 4 q 3 (some (61, q)) 4 q j = _
      rw [wR_at]
      by_cases z3 : j = 3
      · rw [if_pos ⟨rfl, rfl, z3⟩, if_pos z3]
      · rw [if_neg (by omega), if_neg z3, ng4.1 4 q j (by omega)]
        show ax_wR g3.1 4 q 2 (some (60, q)) 4 q j = _
        rw [wR_at]
        by_cases z2 : j = 2
        · rw [if_pos ⟨rfl, rfl, z2⟩, if_pos z2]
        · rw [if_neg (by omega), if_neg z2, ng3.1 4 q j (by omega)]
          show ax_wR g2.1 4 q 1 (some (62, 3 * q)) 4 q j = _
          rw [wR_at]
          by_cases z1 : j = 1
          · rw [if_pos ⟨rfl, rfl, z1⟩, if_pos z1]
          · rw [if_neg (by omega), if_neg z1, ng2.1 4 q j (by omega)]
  have r7 : ∀ j, ax_wR g7.1 4 q 5 (some (62, 3 * q + 2)) 4 q j = if j = 5 then some (62, 3 * q + 2) else g7.1 4 q j := by
    intro j
    rw [wR_at]
    by_cases z : j = 5
    · rw [if_pos ⟨rfl, rfl, z⟩, if_pos z]
    · rw [if_neg (by omega), if_neg z]
  refine hq gi7 (ax_wR g7.1 4 q 5 (some (62, 3 * q + 2)), g7.2) ?_ ?_ ?_ ?_ ?_ ?_ ?_ ?_
  · intro s a j h1 h2 h3 h4
    rw [o7 s a j (by omega), o6 s a j (by omega), o5 s a j h2 h3, o4 s a j h3, o3 s a j h2, o2 s a j (by omega), o1 s a j h1]
  · intro s a j h1 h2 h3 h4
    show ax_wR g7.1 4 q 5 (some (62, 3 * q + 2)) s a j = _
    rw [wR_at, if_neg (by omega)]
    exact p7 s a j h1 h2 h3 h4
  · intro a j ha
    show ax_wR g7.1 4 q 5 (some (62, 3 * q + 2)) 4 a j = _
    rw [wR_at, if_neg (by omega), ng7.1 4 a j (by omega)]
    show ax_wR g6.1 4 q 4 (some (62, 3 * q + 1)) 4 a j = _
    rw [wR_at, if_neg (by omega), ng6.1 4 a j (by omega)]
    show ax_wR g4.1 4 q 3 (some (61, q)) 4 a j = _
    rw [wR_at, if_neg (by omega), ng4.1 4 a j (by omega)]
    show ax_wR g3.1 4 q 2 (some (60, q)) 4 a j = _
    rw [wR_at, if_neg (by omega), ng3.1 4 a j (by omega)]
    show ax_wR g2.1 4 q 1 (some (62, 3 * q)) 4 a j = _
    rw [wR_at, if_neg (by omega), ng2.1 4 a j (by omega)]
  · intro s a h2 h3 h4
    show g7.2.2.1 s a = _
    rw [len7, if_neg (by omega), if_neg (by omega), if_neg h3, if_neg h2, if_neg (by omega)]
  · have cn : ∀ s, g7.2.1 s = if s = 62 then 3 * q + 3 else if s = 61 then q + 1 else if s = 60 then q + 1 else g.2.1 s := by
      intro s
      rw [ng7.2.1]
      by_cases z : s = 62
      · rw [if_pos z, if_pos z]
      · rw [if_neg z, if_neg z]
        show g6.2.1 s = _
        rw [ng6.2.1, if_neg z]
        show g4.2.1 s = _
        rw [ng4.2.1]
        congr 1
        show g3.2.1 s = _
        rw [ng3.2.1]
        congr 1
        show g2.2.1 s = _
        rw [ng2.2.1, if_neg z]
    refine ⟨⟨?_, ?_, ?_, ?_⟩, fun s q1 q2 q3 q4 => ?_⟩
    · show g7.2.1 4 = _
      rw [cn, if_neg (by decide), if_neg (by decide), if_neg (by decide), n4]
    · show g7.2.1 60 = _
      rw [cn, if_neg (by decide), if_neg (by decide), if_pos rfl]
    · show g7.2.1 61 = _
      rw [cn, if_neg (by decide), if_pos rfl]
    · show g7.2.1 62 = _
      rw [cn, if_pos rfl]
      omega
    · show g7.2.1 s = _
      rw [cn, if_neg q4, if_neg q3, if_neg q2]
  · show g7.2.2.2.1 = _
    have a1 := ng7.2.2.2.1
    have a2 := ng6.2.2.2.1
    have a3 := ng4.2.2.2.1
    have a4 := ng3.2.2.2.1
    have a5 := ng2.2.2.2.1
    simp only at a1 a2 a3 a4 a5
    omega
  · show g7.2.2.2.2 = _
    have a1 := ng7.2.2.2.2
    have a2 := ng6.2.2.2.2
    have a3 := ng4.2.2.2.2
    have a4 := ng3.2.2.2.2
    have a5 := ng2.2.2.2.2
    simp only at a1 a2 a3 a4 a5
    omega
  · have hv : gi7 4 q 0 = n32 l.length := by rw [o7 4 q 0 (by omega), o6 4 q 0 (by omega), o5 4 q 0 (by omega) (by omega), v4]
    refine ⟨hv, ?_, ?_, ?_, ?_, ?_, ?_, ?_, ?_, ?_, ?_, ?_, h12, h400⟩
    · show ax_wR g7.1 4 q 5 (some (62, 3 * q + 2)) 4 q 1 = _
      rw [r7, if_neg (by decide), f4]
      rfl
    · show ax_wR g7.1 4 q 5 (some (62, 3 * q + 2)) 4 q 2 = _
      rw [r7, if_neg (by decide), f4]
      rfl
    · show ax_wR g7.1 4 q 5 (some (62, 3 * q + 2)) 4 q 3 = _
      rw [r7, if_neg (by decide), f4]
      rfl
    · show ax_wR g7.1 4 q 5 (some (62, 3 * q + 2)) 4 q 4 = _
      rw [r7, if_neg (by decide), f4]
      rfl
    · show ax_wR g7.1 4 q 5 (some (62, 3 * q + 2)) 4 q 5 = _
      rw [r7, if_pos rfl]
    · show g7.2.2.1 62 (3 * q) = _
      rw [len7, if_neg (by omega), if_neg (by omega), if_neg (by omega), if_neg (by omega), if_pos ⟨rfl, rfl⟩]
    · show g7.2.2.1 60 q = _
      rw [len7, if_neg (by omega), if_neg (by omega), if_neg (by omega), if_pos ⟨rfl, rfl⟩]
    · show g7.2.2.1 61 q = _
      rw [len7, if_neg (by omega), if_neg (by omega), if_pos ⟨rfl, rfl⟩]
    · show g7.2.2.1 62 (3 * q + 1) = _
      rw [len7, if_neg (by omega), if_pos ⟨rfl, rfl⟩]
    · show g7.2.2.1 62 (3 * q + 2) = _
      rw [len7, if_pos ⟨rfl, rfl⟩]
    · refine CsAt_cong hC ?_ ?_ ?_ ?_ ?_
      · intro j hj
        rw [o7 62 (3 * q) j (by omega), o6 62 (3 * q) j (by omega), o5 62 (3 * q) j (by omega) (by omega), o4 62 (3 * q) j (by omega), o3 62 (3 * q) j (by omega), k2 j (by omega), o1 34 0 j (by omega)]
      · intro j hj
        rw [o7 60 q j (by omega), o6 60 q j (by omega), (k5 j (by omega)).1]
      · intro j hj
        rw [o7 61 q j (by omega), o6 61 q j (by omega), (k5 j (by omega)).2]
      · intro j hj
        rw [o7 62 (3 * q + 1) j (by omega), k6 j (by omega), o5 37 0 j (by omega) (by omega), b37]
      · intro j hj
        rw [k7 j (by omega), o6 38 0 j (by omega), o5 38 0 j (by omega) (by omega), b38]
