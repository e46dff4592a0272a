/-! the class's machine: clauses, laws -/
def LawObj (gi : GI) (g : AG) (q : Nat) (l : List PC) : Prop := gi 4 q 0 = n32 l.length ∧ g.1 4 q 1 = some (62, 3 * q) ∧ g.1 4 q 2 = some (60, q) ∧ g.1 4 q 3 = some (61, q) ∧ g.1 4 q 4 = some (62, 3 * q + 1) ∧ g.1 4 q 5 = some (62, 3 * q + 2) ∧ g.2.2.1 62 (3 * q) = l.length + 1 ∧ g.2.2.1 60 q = l.length ∧ g.2.2.1 61 q = l.length ∧ g.2.2.1 62 (3 * q + 1) = lenL l ∧ g.2.2.1 62 (3 * q + 2) = lenL l ∧ CsAt (gi 62 (3 * q)) (gi 60 q) (gi 61 q) (gi 62 (3 * q + 1)) (gi 62 (3 * q + 2)) 0 0 l ∧ l.length ≤ 12 ∧ lenL l ≤ 400
theorem CsAt_congr {f1 f2 f3 f4 f5 h1 h2 h3 h4 h5 : Nat → Int32} (e1 : ∀ j, h1 j = f1 j) (e2 : ∀ j, h2 j = f2 j) (e3 : ∀ j, h3 j = f3 j) (e4 : ∀ j, h4 j = f4 j) (e5 : ∀ j, h5 j = f5 j) : ∀ {l : List PC} {n s : Nat}, CsAt f1 f2 f3 f4 f5 n s l → CsAt h1 h2 h3 h4 h5 n s l
  | [], _, _, _ => trivial
  | C :: l, n, s, h => ⟨(e1 _).trans h.1, (e2 _).trans h.2.1, (e3 _).trans h.2.2.1, CodeAt_congr h.2.2.2.1 (fun j _ _ => ⟨e4 j, e5 j⟩), (e1 _).trans h.2.2.2.2.1, CsAt_congr e1 e2 e3 e4 e5 h.2.2.2.2.2⟩
theorem x_end {d : Nat} {gi : GI} {g : AG} {Q : Option AV → AH → Prop} {q En : Nat} {x2 : Int32} {o5 o6 o7 : Option AV} (hE : En < 2147483648) (hb : gi 5 0 3 = n32 0) (hq : ∀ o3 o4 p5 p6 p7, Runs d (m_Mach_holds, 203, [some (.inr (.inr (some (5, 0)))), some (.inr (.inr (some (4, q)))), some (.inl x2), o3, o4, p5, p6, p7], []) (gi, g) Q) : Runs d (m_Mach_holds, 27, [some (.inr (.inr (some (5, 0)))), some (.inr (.inr (some (4, q)))), some (.inl x2), some (.inl (n32 En)), some (.inl (n32 En)), o5, o6, o7], []) (gi, g) Q := by
  rw [b_Mach_holds_27]
  simp (disch := omega) only [b_Mach_holds_196, hb, n32_add, n32_mul, n32_lt, n32_le, n32_eq, n32_clamp, n32_inT, n32_div, n32_rem, n32_m1, n32_m1', n32_m1lt, n32_ltm1, n32_10, n32_01, Nat.not_lt_zero, Nat.lt_irrefl, Nat.mul_zero, Nat.zero_mul, Nat.zero_add, Nat.add_zero, Nat.reduceEqDiff, Nat.one_ne_zero, Nat.zero_ne_one, ax_psh_none, ax_psh_some, true_and, and_true, and_false, false_and, not_true_eq_false, not_false_eq_true, true_imp_iff, false_imp_iff, imp_self, or_true, true_or, or_false, false_or, and_self, ite_true, ite_false, if_true, if_false]
  exact hq _ _ _ _ _
theorem c_holds {d : Nat} {gi : GI} {g : AG} {Q : Option AV → AH → Prop} {q i s L : Nat} {C : PC} {e : Nat → Int} (hG : GOK g) (r1 : g.1 4 q 1 = some (62, 3 * q)) (r3 : g.1 4 q 3 = some (61, q)) (r4 : g.1 4 q 4 = some (62, 3 * q + 1)) (r5 : g.1 4 q 5 = some (62, 3 * q + 2)) (hl0 : g.2.2.1 62 (3 * q) = L + 1) (hl1 : g.2.2.1 61 q = L) (hl4 : s + C.2.2.1.length ≤ g.2.2.1 62 (3 * q + 1) ∧ g.2.2.1 62 (3 * q + 1) ≤ 401) (hl5 : s + C.2.2.1.length ≤ g.2.2.1 62 (3 * q + 2) ∧ g.2.2.1 62 (3 * q + 2) ≤ 401) (hL : L ≤ 12) (hi : i < L) (hc : CsAt (gi 62 (3 * q)) (gi 60 q) (gi 61 q) (gi 62 (3 * q + 1)) (gi 62 (3 * q + 2)) i s [C]) (hX : ClX C s e) (hf : ∀ j, j < 8 → gi 41 0 j = iv (e j) ∧ Bd (e j))
    (hy : clHolds C e = true → ∀ gi', Fr xMod gi gi' → (C.1 = false → ∃ x, C.2.2.2.1 e = some x ∧ Bd x ∧ gi' 42 0 0 = iv x) → Q (some (.inl (n32 1))) (gi', g))
    (hn : clHolds C e = false → ∀ gi', Fr xMod gi gi' → Q (some (.inl (n32 0))) (gi', g)) :
    ax_call (d + 2) m_Mach_holds [.inr (.inr (some (5, 0))), .inr (.inr (some (4, q))), .inl (n32 i)] (gi, g) Q := by
  obtain ⟨c1, c2, c3, c4, c5, -⟩ := hc
  obtain ⟨k, k', hkk, hsum, htest⟩ := hX
  rw [hkk] at c4 c5 hl4 hl5
  simp only [List.length_append] at c5 hl4 hl5
  rw [CodeAt_append] at c4
  have w1 : ∀ j, ax_wI (ax_wI gi 5 0 2 (n32 0)) 5 0 3 (n32 0) 62 (3 * q) j = gi 62 (3 * q) j := fun j => by simp [wI_at]
  rw [e_Mach_holdsb]
  simp (disch := omega) only [b_Mach_holds_0, r1, hl0, n32_add, n32_mul, n32_lt, n32_le, n32_eq, n32_clamp, n32_inT, n32_div, n32_rem, n32_m1, n32_m1', n32_m1lt, n32_ltm1, n32_10, n32_01, Nat.not_lt_zero, Nat.lt_irrefl, Nat.mul_zero, Nat.zero_mul, Nat.zero_add, Nat.add_zero, Nat.reduceEqDiff, Nat.one_ne_zero, Nat.zero_ne_one, ax_psh_none, ax_psh_some, true_and, and_true, and_false, false_and, not_true_eq_false, not_false_eq_true, true_imp_iff, false_imp_iff, imp_self, or_true, true_or, or_false, false_or, and_self, ite_true, ite_false, if_true, if_false, w1, c1, c5]
  generalize hgi : ax_wI (ax_wI gi 5 0 2 (n32 0)) 5 0 3 (n32 0) = gi0
  have fr0 : Fr xMod gi gi0 := by
    rw [← hgi]
    exact Fr_wI (Fr_wI (Fr_refl _ _) rfl) rfl
  have b0 : gi0 5 0 3 = n32 0 := by rw [← hgi]; simp [wI_at]
  have t0 : gi0 5 0 2 = n32 0 := by rw [← hgi]; simp [wI_at]
  have hx0 : XCtx e gi0 g q (s + (k.length + k'.length)) := ⟨hG, r4, r5, hl4, hl5, fun j hj => by rw [fr0 41 0 j rfl]; exact hf j hj⟩
  -- the test's end
  have tst : ∀ (b : Bool) (t : Nat) (gi' : GI) (x2 o3 o4 p5 p6 p7 : Option AV), x2 = some (.inl (n32 i)) → C.2.1 = true → Fr xMod gi gi' → gi' 5 0 3 = n32 0 → gi' 5 0 2 = n32 (t + 1) → t < 64 → gi' 42 0 t = b32 b → (b = true → Q (some (.inl (n32 1))) (ax_wI gi' 5 0 2 (n32 t), g)) → (b = false → Q (some (.inl (n32 0))) (ax_wI gi' 5 0 2 (n32 t), g)) → Runs (d + 1) (m_Mach_holds, 203, [some (.inr (.inr (some (5, 0)))), some (.inr (.inr (some (4, q)))), x2, o3, o4, p5, p6, p7], []) (gi', g) Q := by
    intro b t gi' x2 o3 o4 p5 p6 p7 hx2 hte fr hb ht ht64 hv h1 h0
    subst hx2
    have e61 : gi' 61 q i = n32 1 := by
      rw [fr 61 q i rfl, c3, hte]
      rfl
    cases b with
    | true =>
      simp (disch := omega) only [b_Mach_holds_203, b_Mach_holds_212, b_Mach_holds_216, b_Mach_holds_220, b_Mach_holds_225, r3, hl1, e61, c_pop d hG ht ht64, hv, b32, n32_add, n32_mul, n32_lt, n32_le, n32_eq, n32_clamp, n32_inT, n32_div, n32_rem, n32_m1, n32_m1', n32_m1lt, n32_ltm1, n32_10, n32_01, Nat.not_lt_zero, Nat.lt_irrefl, Nat.mul_zero, Nat.zero_mul, Nat.zero_add, Nat.add_zero, Nat.reduceEqDiff, Nat.one_ne_zero, Nat.zero_ne_one, ax_psh_none, ax_psh_some, true_and, and_true, and_false, false_and, not_true_eq_false, not_false_eq_true, true_imp_iff, false_imp_iff, imp_self, or_true, true_or, or_false, false_or, and_self, ite_true, ite_false, if_true, if_false]
      exact h1 rfl
    | false =>
      simp (disch := omega) only [b_Mach_holds_203, b_Mach_holds_212, b_Mach_holds_216, b_Mach_holds_224, b_Mach_holds_225, r3, hl1, e61, c_pop d hG ht ht64, hv, b32, Bool.false_eq_true, n32_add, n32_mul, n32_lt, n32_le, n32_eq, n32_clamp, n32_inT, n32_div, n32_rem, n32_m1, n32_m1', n32_m1lt, n32_ltm1, n32_10, n32_01, Nat.not_lt_zero, Nat.lt_irrefl, Nat.mul_zero, Nat.zero_mul, Nat.zero_add, Nat.add_zero, Nat.reduceEqDiff, Nat.one_ne_zero, Nat.zero_ne_one, ax_psh_none, ax_psh_some, true_and, and_true, and_false, false_and, not_true_eq_false, not_false_eq_true, true_imp_iff, false_imp_iff, imp_self, or_true, true_or, or_false, false_or, and_self, ite_true, ite_false, if_true, if_false]
      exact h0 rfl
  have untst : ∀ (gi' : GI) (x2 o3 o4 p5 p6 p7 : Option AV), x2 = some (.inl (n32 i)) → C.2.1 = false → Fr xMod gi gi' → gi' 5 0 3 = n32 0 → Q (some (.inl (n32 1))) (gi', g) → Runs (d + 1) (m_Mach_holds, 203, [some (.inr (.inr (some (5, 0)))), some (.inr (.inr (some (4, q)))), x2, o3, o4, p5, p6, p7], []) (gi', g) Q := by
    intro gi' x2 o3 o4 p5 p6 p7 hx2 hte fr hb h1
    subst hx2
    have e61 : gi' 61 q i = n32 0 := by
      rw [fr 61 q i rfl, c3, hte]
      rfl
    simp (disch := omega) only [b_Mach_holds_203, b_Mach_holds_220, b_Mach_holds_225, r3, hl1, e61, n32_add, n32_mul, n32_lt, n32_le, n32_eq, n32_clamp, n32_inT, n32_div, n32_rem, n32_m1, n32_m1', n32_m1lt, n32_ltm1, n32_10, n32_01, Nat.not_lt_zero, Nat.lt_irrefl, Nat.mul_zero, Nat.zero_mul, Nat.zero_add, Nat.add_zero, Nat.reduceEqDiff, Nat.one_ne_zero, Nat.zero_ne_one, ax_psh_none, ax_psh_some, true_and, and_true, and_false, false_and, not_true_eq_false, not_false_eq_true, true_imp_iff, false_imp_iff, imp_self, or_true, true_or, or_false, false_or, and_self, ite_true, ite_false, if_true, if_false]
    exact h1
  have hE : s + (k.length + k'.length) < 2147483648 := by omega
  rcases hsum with ⟨sp, hk0, hsv⟩ | ⟨sp, hex⟩
  · subst hk0
    simp only [List.length_nil, Nat.zero_add, Nat.add_zero] at *
    rcases htest with ⟨te, hk0, htv⟩ | ⟨te, hex2⟩
    · subst hk0
      simp only [List.length_nil, Nat.zero_add, Nat.add_zero] at *
      refine x_end (by omega) b0 (fun o3 o4 p5 p6 p7 => untst gi0 _ o3 o4 p5 p6 p7 rfl te fr0 b0 ?_)
      exact hy (by unfold clHolds; rw [hsv, htv]; rfl) gi0 fr0 (fun z => by rw [sp] at z; exact absurd z (by decide))
    · refine hex2 d gi0 g Q q _ 0 _ _ _ _ hx0 (Code_fr c4.2 fr0) (Nat.le_refl _) b0 t0 (by omega) ?_ ?_
      · intro x gi1 p5 p6 p7 hm bx st
        obtain ⟨b, hb1, hb2⟩ := Option.map_eq_some_iff.mp hm
        have hv : gi1 42 0 0 = b32 b := by rw [st.2.2.2.1, ← hb2, b32_iv]; rfl
        have fr1 := Fr_trans fr0 st.1
        refine x_end (by omega) st.2.1 (fun o3 o4 p5 p6 p7 => tst b 0 gi1 _ o3 o4 p5 p6 p7 rfl te fr1 st.2.1 st.2.2.1 (by omega) hv ?_ ?_)
        · intro hb
          subst hb
          exact hy (by unfold clHolds; rw [hsv, hb1]; rfl) _ (Fr_wI fr1 rfl) (fun z => by rw [sp] at z; exact absurd z (by decide))
        · intro hb
          subst hb
          exact hn (by unfold clHolds; rw [hsv, hb1]; rfl) _ (Fr_wI fr1 rfl)
      · intro hm gi1 fr1
        rw [Option.map_eq_none_iff] at hm
        exact hn (by unfold clHolds; rw [hsv, hm]; rfl) gi1 (Fr_trans fr0 fr1)
  · refine hex d gi0 g Q q _ 0 _ _ _ _ hx0 (Code_fr c4.1 fr0) (by omega) b0 t0 (by omega) ?_ ?_
    · intro x gi1 p5 p6 p7 hm bx st
      have fr1 := Fr_trans fr0 st.1
      rcases htest with ⟨te, hk0, htv⟩ | ⟨te, hex2⟩
      · subst hk0
        simp only [List.length_nil, Nat.zero_add, Nat.add_zero] at *
        refine x_end (by omega) st.2.1 (fun o3 o4 p5 p6 p7 => untst gi1 _ o3 o4 p5 p6 p7 rfl te fr1 st.2.1 ?_)
        exact hy (by unfold clHolds; rw [hm, htv]; rfl) gi1 fr1 (fun _ => ⟨x, hm, bx, st.2.2.2.1⟩)
      · refine hex2 d gi1 g Q q _ 1 _ _ _ _ (XCtx_fr hx0 st.1) (Code_fr c4.2 fr1) (by omega) st.2.1 st.2.2.1 (by omega) ?_ ?_
        · intro y gi2 r5 r6 r7 hm2 bY st2
          obtain ⟨b, hb1, hb2⟩ := Option.map_eq_some_iff.mp hm2
          have hv : gi2 42 0 1 = b32 b := by rw [st2.2.2.2.1, ← hb2, b32_iv]; rfl
          have fr2 := Fr_trans fr1 st2.1
          have e0 : gi2 42 0 0 = iv x := (st2.2.2.2.2 0 (by omega)).trans st.2.2.2.1
          rw [Nat.add_assoc]
          refine x_end (by omega) st2.2.1 (fun o3 o4 p5 p6 p7 => tst b 1 gi2 _ o3 o4 p5 p6 p7 rfl te fr2 st2.2.1 st2.2.2.1 (by omega) hv ?_ ?_)
          · intro hb
            subst hb
            exact hy (by unfold clHolds; rw [hm, hb1]; rfl) _ (Fr_wI fr2 rfl) (fun _ => ⟨x, hm, bx, by simp [wI_at, e0]⟩)
          · intro hb
            subst hb
            exact hn (by unfold clHolds; rw [hm, hb1]; rfl) _ (Fr_wI fr2 rfl)
        · intro hm2 gi2 fr2
          rw [Option.map_eq_none_iff] at hm2
          exact hn (by unfold clHolds; rw [hm, hm2]; rfl) gi2 (Fr_trans fr1 fr2)
    · intro hm gi1 fr1
      exact hn (by unfold clHolds; rw [hm]; rfl) gi1 (Fr_trans fr0 fr1)
theorem iv_lt {a b : Int} (ha : Bd a) (hb : Bd b) : (iv a < iv b) = (a < b) := by
  rw [Int32.lt_iff_toInt_lt, iv_toInt ha, iv_toInt hb]
theorem clamp_ok {v : Int} (h : Bd v) : (if n32 0 < (if n32 999 < iv v then n32 999 else iv v) then (if n32 999 < iv v then n32 999 else iv v) else n32 0) = n32 (clamp v) := by
  have e0 : n32 0 = iv 0 := by decide
  have e9 : n32 999 = iv 999 := by decide
  have b0 : Bd 0 := by unfold Bd; omega
  have b9 : Bd 999 := by unfold Bd; omega
  have q1 : (n32 999 < iv v) ↔ (999 < v) := by rw [e9, iv_lt b9 h]
  have q2 : (n32 0 < iv v) ↔ (0 < v) := by rw [e0, iv_lt b0 h]
  have q3 : n32 0 < n32 999 := by decide
  unfold clamp
  by_cases h1 : 999 < v
  · rw [if_pos (q1.mpr h1), if_pos q3, if_neg (by omega), if_pos h1]
  · rw [if_neg (fun z => h1 (q1.mp z))]
    by_cases h2 : 0 < v
    · rw [if_pos (q2.mpr h2), if_neg (by omega), if_neg h1, ← iv_n, Int.toNat_of_nonneg (by omega)]
    · rw [if_neg (fun z => h2 (q2.mp z))]
      by_cases h3 : v < 0
      · rw [if_pos h3]
      · have : v = 0 := by omega
        subst this
        rfl
theorem clamp_le (v : Int) : clamp v ≤ 999 := by
  unfold clamp
  split
  · omega
  · split <;> omega
theorem taxL_le : ∀ (l : List PC) (e : Nat → Int) (t : Nat), t ≤ 999 → taxL l e t ≤ 999
  | [], _, _, h => h
  | C :: l, e, t, h => by
    unfold taxL
    split
    · split
      · omega
      · exact taxL_le l e _ (clamp_le _)
    · exact taxL_le l e t h
theorem c_tax_loop {d : Nat} {g : AG} {Q : Option AV → AH → Prop} {q L : Nat} {e : Nat → Int} (hG : GOK g) (r1 : g.1 4 q 1 = some (62, 3 * q)) (r2 : g.1 4 q 2 = some (60, q)) (r3 : g.1 4 q 3 = some (61, q)) (r4 : g.1 4 q 4 = some (62, 3 * q + 1)) (r5 : g.1 4 q 5 = some (62, 3 * q + 2)) (hl0 : g.2.2.1 62 (3 * q) = L + 1) (hl2 : g.2.2.1 60 q = L) (hl1 : g.2.2.1 61 q = L) (hL : L ≤ 12) : ∀ (l : List PC) (gi : GI) (i s t : Nat), i + l.length = L → gi 4 q 0 = n32 L → s + lenL l ≤ g.2.2.1 62 (3 * q + 1) → g.2.2.1 62 (3 * q + 1) ≤ 401 → s + lenL l ≤ g.2.2.1 62 (3 * q + 2) → g.2.2.1 62 (3 * q + 2) ≤ 401 → CsAt (gi 62 (3 * q)) (gi 60 q) (gi 61 q) (gi 62 (3 * q + 1)) (gi 62 (3 * q + 2)) i s l → LsX e l s → (∀ j, j < 8 → gi 41 0 j = iv (e j) ∧ Bd (e j)) →
    (∀ gi', Fr xMod gi gi' → Q (some (.inl (n32 (taxL l e t)))) (gi', g)) →
    Runs (d + 2) (m_Mach_taxOf, 11, [some (.inr (.inr (some (5, 0)))), some (.inr (.inr (some (4, q)))), some (.inl (n32 t)), some (.inl (n32 i))], []) (gi, g) Q := by
  intro l
  induction l with
  | nil =>
    intro gi i s t hi hn _ _ _ _ _ _ _ hq
    have e : i = L := by simpa using hi
    subst e
    rw [b_Mach_taxOf_11]
    simp (disch := omega) only [hn, b_Mach_taxOf_62, n32_add, n32_mul, n32_lt, n32_le, n32_eq, n32_clamp, n32_inT, n32_div, n32_rem, n32_m1, n32_m1', n32_m1lt, n32_ltm1, n32_10, n32_01, Nat.not_lt_zero, Nat.lt_irrefl, Nat.mul_zero, Nat.zero_mul, Nat.zero_add, Nat.add_zero, Nat.reduceEqDiff, Nat.one_ne_zero, Nat.zero_ne_one, ax_psh_none, ax_psh_some, true_and, and_true, and_false, false_and, not_true_eq_false, not_false_eq_true, true_imp_iff, false_imp_iff, imp_self, or_true, true_or, or_false, false_or, and_self, ite_true, ite_false, if_true, if_false]
    exact hq gi (Fr_refl _ _)
  | cons C l ih =>
    intro gi i s t hi hn hl4 hl4' hl5 hl5' hc hX hf hq
    simp only [List.length_cons] at hi
    have hlt : i < L := by omega
    simp only [lenL] at hl4 hl5
    rw [b_Mach_taxOf_11]
    simp (disch := omega) only [hn, hlt, b_Mach_taxOf_19, n32_add, n32_mul, n32_lt, n32_le, n32_eq, n32_clamp, n32_inT, n32_div, n32_rem, n32_m1, n32_m1', n32_m1lt, n32_ltm1, n32_10, n32_01, Nat.not_lt_zero, Nat.lt_irrefl, Nat.mul_zero, Nat.zero_mul, Nat.zero_add, Nat.add_zero, Nat.reduceEqDiff, Nat.one_ne_zero, Nat.zero_ne_one, ax_psh_none, ax_psh_some, true_and, and_true, and_false, false_and, not_true_eq_false, not_false_eq_true, true_imp_iff, false_imp_iff, imp_self, or_true, true_or, or_false, false_or, and_self, ite_true, ite_false, if_true, if_false]
    have hc1 : CsAt (gi 62 (3 * q)) (gi 60 q) (gi 61 q) (gi 62 (3 * q + 1)) (gi 62 (3 * q + 2)) i s [C] := ⟨hc.1, hc.2.1, hc.2.2.1, hc.2.2.2.1, hc.2.2.2.2.1, trivial⟩
    have next : ∀ (gi' : GI) (t' : Nat), Fr xMod gi gi' → (∀ gi'', Fr xMod gi' gi'' → Q (some (.inl (n32 (taxL l e t')))) (gi'', g)) → Runs (d + 2) (m_Mach_taxOf, 56, [some (.inr (.inr (some (5, 0)))), some (.inr (.inr (some (4, q)))), some (.inl (n32 t')), some (.inl (n32 i))], []) (gi', g) Q := by
      intro gi' t' fr hq'
      rw [b_Mach_taxOf_56]
      simp only [n32_add]
      refine ih gi' (i + 1) (s + C.2.2.1.length) t' (by omega) ?_ (by omega) hl4' (by omega) hl5' ?_ hX.2 ?_ hq'
      · rw [fr 4 q 0 rfl, hn]
      · exact CsAt_congr (fun j => fr 62 _ j rfl) (fun j => fr 60 _ j rfl) (fun j => fr 61 _ j rfl) (fun j => fr 62 _ j rfl) (fun j => fr 62 _ j rfl) hc.2.2.2.2.2
      · intro j hj
        rw [fr 41 0 j rfl]
        exact hf j hj
    apply c_holds (L := L) hG r1 r3 r4 r5 hl0 hl1 ⟨by omega, hl4'⟩ ⟨by omega, hl5'⟩ hL hlt hc1 hX.1 hf
    · intro hh gi' fr hx
      have e60 : gi' 60 q i = b32 C.1 := (fr 60 q i rfl).trans hc.2.1
      cases hsp : C.1 with
      | true =>
        rw [hsp] at e60
        simp (disch := omega) only [b_Mach_taxOf_25, b_Mach_taxOf_28, b_Mach_taxOf_37, r2, hl2, e60, b32, n32_add, n32_mul, n32_lt, n32_le, n32_eq, n32_clamp, n32_inT, n32_div, n32_rem, n32_m1, n32_m1', n32_m1lt, n32_ltm1, n32_10, n32_01, Nat.not_lt_zero, Nat.lt_irrefl, Nat.mul_zero, Nat.zero_mul, Nat.zero_add, Nat.add_zero, Nat.reduceEqDiff, Nat.one_ne_zero, Nat.zero_ne_one, ax_psh_none, ax_psh_some, true_and, and_true, and_false, false_and, not_true_eq_false, not_false_eq_true, true_imp_iff, false_imp_iff, imp_self, or_true, true_or, or_false, false_or, and_self, ite_true, ite_false, if_true, if_false]
        have := hq gi' fr
        rw [taxL, if_pos hh, if_pos hsp] at this
        exact this
      | false =>
        rw [hsp] at e60
        obtain ⟨x, hx1, hx2, hx3⟩ := hx hsp
        have e0 : (n32 0).toNatClampNeg = 0 := by decide
        simp (disch := omega) only [b_Mach_taxOf_25, b_Mach_taxOf_28, b_Mach_taxOf_39, r2, hl2, e60, b32, Bool.false_eq_true, G_0_0 hG, G_0_1 hG, G_0_2 hG, G_0_3 hG, G_0_7 hG, G_0_10 hG, G_0_12 hG, G_0_13 hG, G_0_14 hG, G_0_15 hG, G_0_16 hG, G_0_17 hG, G_1_0 hG, G_1_2 hG, G_1_5 hG, G_2_4 hG, G_2_5 hG, G_3_5 hG, G_3_6 hG, G_3_7 hG, G_3_8 hG, G_3_9 hG, G_5_0 hG, G_5_1 hG, G_6_0 hG, G_6_1 hG, G_6_2 hG, G_6_9 hG, G_6_10 hG, G_6_11 hG, G_6_12 hG, G_6_13 hG, G_7_0 hG, G_7_5 hG, G_8_8 hG, G_8_9 hG, G_9_8 hG, G_9_9 hG, G_10_7 hG, G_10_8 hG, G_10_9 hG, G_10_10 hG, G_10_11 hG, G_11_0 hG, G_12_2 hG, G_12_3 hG, G_12_4 hG, G_12_5 hG, G_12_7 hG, G_12_8 hG, G_12_9 hG, G_12_12 hG, G_12_13 hG, G_12_14 hG, G_12_22 hG, G_12_23 hG, G_12_29 hG, G_12_30 hG, G_12_31 hG, G_12_37 hG, G_12_38 hG, G_12_39 hG, G_12_40 hG, G_12_41 hG, G_12_43 hG, G_12_46 hG, G_12_47 hG, G_12_48 hG, G_25 hG, G_26 hG, G_47 hG, G_58 hG, hx3, e0, clamp_ok hx2, n32_inT, n32_clamp, n32_10, ax_psh_none, ax_psh_some, true_and, and_true, and_false, false_and, not_true_eq_false, not_false_eq_true, true_imp_iff, false_imp_iff, imp_self, or_true, true_or, or_false, false_or, and_self, ite_true, ite_false, if_true, if_false]
        refine next gi' (clamp x) fr (fun gi'' fr2 => ?_)
        have := hq gi'' (Fr_trans fr fr2)
        rw [taxL, if_pos hh, if_neg (by rw [hsp]; decide), hx1] at this
        exact this
    · intro hh gi' fr
      simp only [b_Mach_taxOf_25, ax_psh_none, ax_psh_some, true_and, and_true, and_false, false_and, not_true_eq_false, not_false_eq_true, true_imp_iff, false_imp_iff, imp_self, or_true, true_or, or_false, false_or, and_self, ite_true, ite_false, if_true, if_false]
      refine next gi' t fr (fun gi'' fr2 => ?_)
      have := hq gi'' (Fr_trans fr fr2)
      rw [taxL, if_neg (by rw [hh]; decide)] at this
      exact this
/-- what a law tells, by the class -/
theorem c_Mach_taxOf {d : Nat} {gi : GI} {g : AG} {Q : Option AV → AH → Prop} {q : Nat} {l : List PC} {e : Nat → Int} (hG : GOK g) (hl : LawObj gi g q l) (hX : LsX e l 0) (hf : ∀ j, j < 8 → gi 41 0 j = iv (e j) ∧ Bd (e j)) (hq : ∀ gi', Fr xMod gi gi' → Q (some (.inl (n32 (taxL l e 10)))) (gi', g)) : ax_call (d + 3) m_Mach_taxOf [.inr (.inr (some (5, 0))), .inr (.inr (some (4, q)))] (gi, g) Q := by
  obtain ⟨h0, r1, r2, r3, r4, r5, l0, l2, l1, l4, l5, hc, h12, h400⟩ := hl
  simp only [e_Mach_taxOfa, e_Mach_taxOfb, b_Mach_taxOf_0a, b_Mach_taxOf_0b, b_Mach_taxOf_7, b_Mach_taxOf_9]
  exact c_tax_loop hG r1 r2 r3 r4 r5 l0 l2 l1 h12 l gi 0 0 10 (by omega) h0 (by omega) (by omega) (by omega) (by omega) hc hX hf hq
theorem c_Mach_taxOf_n (d : Nat) (gi : GI) (g : AG) (Q : Option AV → AH → Prop) : ax_call (d + 1) m_Mach_taxOf [.inr (.inr (some (5, 0))), .inr (.inr none)] (gi, g) Q = Q (some (.inl (n32 10))) (gi, g) := by
  simp only [e_Mach_taxOfa, e_Mach_taxOfb, b_Mach_taxOf_0a, b_Mach_taxOf_0b, b_Mach_taxOf_7, b_Mach_taxOf_9]
