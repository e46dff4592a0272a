/-! the reference's going through: sums and terms -/
theorem ax_kl_none : ax_kl none = none := rfl
theorem sumOf_h1 (d : Nat) {gi : GI} {g : AG} {Q : Option AV → AH → Prop} (hG : GOK g) {c v : Nat → Nat} {N b a : Nat} {e : Nat → Int} (hE : EC gi c v N b e) (ha : a ≤ 1000) (hgo : gi 12 0 19 = n32 (b + a)) (h1 : c a = 100 + 43) (live : Int32) (x : Int64) (o3 o4 o5 o6 : Option AV) : Runs (d + 1) (m_M_sumOf, 6, [some (.inr (.inr (some (12, 0)))), some (.inl live), some (.inr (.inl x)), o3, o4, o5, o6], []) (gi, g) Q = Runs (d + 1) (m_M_sumOf, 59, [some (.inr (.inr (some (12, 0)))), some (.inl live), some (.inr (.inl x)), o3, o4, o5, o6], [.inl (n32 1)]) (gi, g) Q := by
  rw [b_M_sumOf_6]
  simp (disch := omega) only [b_M_sumOf_14, b_M_sumOf_19, b_M_sumOf_38, b_M_sumOf_46, b_M_sumOf_51, b_M_sumOf_54, hgo, c_codeAt _ hG hE ha, c_M_sign, h1, n32_add, n32_mul, n32_lt, n32_le, n32_eq, n32_clamp, n32_inT, n32_div, n32_rem, n32_m1, n32_m1', n32_m1lt, n32_ltm1, n32_10, n32_01, Nat.not_lt_zero, Nat.lt_irrefl, Nat.mul_zero, Nat.zero_mul, Nat.zero_add, Nat.add_zero, Nat.reduceEqDiff, Nat.one_ne_zero, Nat.zero_ne_one, ax_psh_none, ax_psh_some, true_and, and_true, and_false, false_and, not_true_eq_false, not_false_eq_true, true_imp_iff, false_imp_iff, imp_self, or_true, true_or, or_false, false_or, and_self, ite_true, ite_false, if_true, if_false]
theorem sumOf_h2 (d : Nat) {gi : GI} {g : AG} {Q : Option AV → AH → Prop} (hG : GOK g) {c v : Nat → Nat} {N b a : Nat} {e : Nat → Int} (hE : EC gi c v N b e) (ha : a ≤ 1000) (hgo : gi 12 0 19 = n32 (b + a)) (h2 : c a = 100 + 45) (live : Int32) (x : Int64) (o3 o4 o5 o6 : Option AV) : Runs (d + 1) (m_M_sumOf, 6, [some (.inr (.inr (some (12, 0)))), some (.inl live), some (.inr (.inl x)), o3, o4, o5, o6], []) (gi, g) Q = Runs (d + 1) (m_M_sumOf, 59, [some (.inr (.inr (some (12, 0)))), some (.inl live), some (.inr (.inl x)), o3, o4, o5, o6], [.inl (n32 0)]) (gi, g) Q := by
  have h1 : ¬ (100 + 45 = 100 + 43) := by decide
  rw [b_M_sumOf_6]
  simp (disch := omega) only [b_M_sumOf_14, b_M_sumOf_19, b_M_sumOf_22, b_M_sumOf_30, b_M_sumOf_35, b_M_sumOf_38, b_M_sumOf_46, b_M_sumOf_51, b_M_sumOf_58, hgo, c_codeAt _ hG hE ha, c_M_sign, h2, h1, n32_add, n32_mul, n32_lt, n32_le, n32_eq, n32_clamp, n32_inT, n32_div, n32_rem, n32_m1, n32_m1', n32_m1lt, n32_ltm1, n32_10, n32_01, Nat.not_lt_zero, Nat.lt_irrefl, Nat.mul_zero, Nat.zero_mul, Nat.zero_add, Nat.add_zero, Nat.reduceEqDiff, Nat.one_ne_zero, Nat.zero_ne_one, ax_psh_none, ax_psh_some, true_and, and_true, and_false, false_and, not_true_eq_false, not_false_eq_true, true_imp_iff, false_imp_iff, imp_self, or_true, true_or, or_false, false_or, and_self, ite_true, ite_false, if_true, if_false]
theorem sumOf_he (d : Nat) {gi : GI} {g : AG} {Q : Option AV → AH → Prop} (hG : GOK g) {c v : Nat → Nat} {N b a : Nat} {e : Nat → Int} (hE : EC gi c v N b e) (ha : a ≤ 1000) (hgo : gi 12 0 19 = n32 (b + a)) (h1 : c a ≠ 100 + 43) (h2 : c a ≠ 100 + 45) (live : Int32) (x : Int64) (o3 o4 o5 o6 : Option AV) : Runs (d + 1) (m_M_sumOf, 6, [some (.inr (.inr (some (12, 0)))), some (.inl live), some (.inr (.inl x)), o3, o4, o5, o6], []) (gi, g) Q = Q (some (.inr (.inl x))) (gi, g) := by
  have := EC_c hE a
  rw [b_M_sumOf_6]
  simp (disch := omega) only [b_M_sumOf_14, b_M_sumOf_19, b_M_sumOf_22, b_M_sumOf_30, b_M_sumOf_35, b_M_sumOf_103, hgo, c_codeAt _ hG hE ha, c_M_sign, h2, h1, n32_add, n32_mul, n32_lt, n32_le, n32_eq, n32_clamp, n32_inT, n32_div, n32_rem, n32_m1, n32_m1', n32_m1lt, n32_ltm1, n32_10, n32_01, Nat.not_lt_zero, Nat.lt_irrefl, Nat.mul_zero, Nat.zero_mul, Nat.zero_add, Nat.add_zero, Nat.reduceEqDiff, Nat.one_ne_zero, Nat.zero_ne_one, ax_psh_none, ax_psh_some, true_and, and_true, and_false, false_and, not_true_eq_false, not_false_eq_true, true_imp_iff, false_imp_iff, imp_self, or_true, true_or, or_false, false_or, and_self, ite_true, ite_false, if_true, if_false]
theorem termOf_h1 (d : Nat) {gi : GI} {g : AG} {Q : Option AV → AH → Prop} (hG : GOK g) {c v : Nat → Nat} {N b a : Nat} {e : Nat → Int} (hE : EC gi c v N b e) (ha : a ≤ 1000) (hgo : gi 12 0 19 = n32 (b + a)) (h1 : c a = 100 + 42) (live : Int32) (x : Int64) (o3 o4 o5 o6 : Option AV) : Runs (d + 1) (m_M_termOf, 6, [some (.inr (.inr (some (12, 0)))), some (.inl live), some (.inr (.inl x)), o3, o4, o5, o6], []) (gi, g) Q = Runs (d + 1) (m_M_termOf, 59, [some (.inr (.inr (some (12, 0)))), some (.inl live), some (.inr (.inl x)), o3, o4, o5, o6], [.inl (n32 1)]) (gi, g) Q := by
  rw [b_M_termOf_6]
  simp (disch := omega) only [b_M_termOf_14, b_M_termOf_19, b_M_termOf_38, b_M_termOf_46, b_M_termOf_51, b_M_termOf_54, hgo, c_codeAt _ hG hE ha, c_M_sign, h1, n32_add, n32_mul, n32_lt, n32_le, n32_eq, n32_clamp, n32_inT, n32_div, n32_rem, n32_m1, n32_m1', n32_m1lt, n32_ltm1, n32_10, n32_01, Nat.not_lt_zero, Nat.lt_irrefl, Nat.mul_zero, Nat.zero_mul, Nat.zero_add, Nat.add_zero, Nat.reduceEqDiff, Nat.one_ne_zero, Nat.zero_ne_one, ax_psh_none, ax_psh_some, true_and, and_true, and_false, false_and, not_true_eq_false, not_false_eq_true, true_imp_iff, false_imp_iff, imp_self, or_true, true_or, or_false, false_or, and_self, ite_true, ite_false, if_true, if_false]
theorem termOf_h2 (d : Nat) {gi : GI} {g : AG} {Q : Option AV → AH → Prop} (hG : GOK g) {c v : Nat → Nat} {N b a : Nat} {e : Nat → Int} (hE : EC gi c v N b e) (ha : a ≤ 1000) (hgo : gi 12 0 19 = n32 (b + a)) (h2 : c a = 100 + 47) (live : Int32) (x : Int64) (o3 o4 o5 o6 : Option AV) : Runs (d + 1) (m_M_termOf, 6, [some (.inr (.inr (some (12, 0)))), some (.inl live), some (.inr (.inl x)), o3, o4, o5, o6], []) (gi, g) Q = Runs (d + 1) (m_M_termOf, 59, [some (.inr (.inr (some (12, 0)))), some (.inl live), some (.inr (.inl x)), o3, o4, o5, o6], [.inl (n32 0)]) (gi, g) Q := by
  have h1 : ¬ (100 + 47 = 100 + 42) := by decide
  rw [b_M_termOf_6]
  simp (disch := omega) only [b_M_termOf_14, b_M_termOf_19, b_M_termOf_22, b_M_termOf_30, b_M_termOf_35, b_M_termOf_38, b_M_termOf_46, b_M_termOf_51, b_M_termOf_58, hgo, c_codeAt _ hG hE ha, c_M_sign, h2, h1, n32_add, n32_mul, n32_lt, n32_le, n32_eq, n32_clamp, n32_inT, n32_div, n32_rem, n32_m1, n32_m1', n32_m1lt, n32_ltm1, n32_10, n32_01, Nat.not_lt_zero, Nat.lt_irrefl, Nat.mul_zero, Nat.zero_mul, Nat.zero_add, Nat.add_zero, Nat.reduceEqDiff, Nat.one_ne_zero, Nat.zero_ne_one, ax_psh_none, ax_psh_some, true_and, and_true, and_false, false_and, not_true_eq_false, not_false_eq_true, true_imp_iff, false_imp_iff, imp_self, or_true, true_or, or_false, false_or, and_self, ite_true, ite_false, if_true, if_false]
theorem termOf_he (d : Nat) {gi : GI} {g : AG} {Q : Option AV → AH → Prop} (hG : GOK g) {c v : Nat → Nat} {N b a : Nat} {e : Nat → Int} (hE : EC gi c v N b e) (ha : a ≤ 1000) (hgo : gi 12 0 19 = n32 (b + a)) (h1 : c a ≠ 100 + 42) (h2 : c a ≠ 100 + 47) (live : Int32) (x : Int64) (o3 o4 o5 o6 : Option AV) : Runs (d + 1) (m_M_termOf, 6, [some (.inr (.inr (some (12, 0)))), some (.inl live), some (.inr (.inl x)), o3, o4, o5, o6], []) (gi, g) Q = Q (some (.inr (.inl x))) (gi, g) := by
  have := EC_c hE a
  rw [b_M_termOf_6]
  simp (disch := omega) only [b_M_termOf_14, b_M_termOf_19, b_M_termOf_22, b_M_termOf_30, b_M_termOf_35, b_M_termOf_138, hgo, c_codeAt _ hG hE ha, c_M_sign, h2, h1, n32_add, n32_mul, n32_lt, n32_le, n32_eq, n32_clamp, n32_inT, n32_div, n32_rem, n32_m1, n32_m1', n32_m1lt, n32_ltm1, n32_10, n32_01, Nat.not_lt_zero, Nat.lt_irrefl, Nat.mul_zero, Nat.zero_mul, Nat.zero_add, Nat.add_zero, Nat.reduceEqDiff, Nat.one_ne_zero, Nat.zero_ne_one, ax_psh_none, ax_psh_some, true_and, and_true, and_false, false_and, not_true_eq_false, not_false_eq_true, true_imp_iff, false_imp_iff, imp_self, or_true, true_or, or_false, false_or, and_self, ite_true, ite_false, if_true, if_false]
theorem c_bounded_0 (d : Nat) {gi : GI} {g : AG} {Q : Option AV → AH → Prop} (hG : GOK g) (h : gi 12 0 21 = n32 0 ∨ gi 12 0 21 = n32 1) (lvx : Int32) : ax_call (d + 1) m_M_bounded [.inr (.inr (some (12, 0))), .inr (.inl (lv 0)), .inl lvx] (gi, g) Q = Q (some (.inr (.inl (lv 0)))) (gi, g) := by
  rcases h with h | h
  · exact c_bounded_y _ hG Bd0 h lvx
  · exact c_bounded_b _ hG Bd0 h lvx
theorem lo_1 : (1 : Int64) = lv 1 := by decide
theorem div_1 {x : Int} (hx : Bd x) : lv x / lv 1 = lv x := by
  rw [lo_div hx (by unfold Bd; omega), Int.tdiv_one]
/-- behind a part of a term that isn't asked -/
theorem term_tail_d (d : Nat) {gi : GI} {g : AG} {Q : Option AV → AH → Prop} (hG : GOK g) {live : Int32} (hd : Dead gi live) (x4 : Int32) (hx4 : x4 = n32 0 ∨ x4 = n32 1) (o4 o5 o6 : Option AV) (hq : ∀ o4 o5 o6, Runs (d + 1) (m_M_termOf, 6, [some (.inr (.inr (some (12, 0)))), some (.inl live), some (.inr (.inl (lv 0))), none, o4, o5, o6], []) (gi, g) Q) :
    Runs (d + 1) (m_M_termOf, 76, [some (.inr (.inr (some (12, 0)))), some (.inl live), some (.inr (.inl (lv 0))), none, some (.inl x4), o5, o6], [.inr (.inl (lv 0))]) (gi, g) Q := by
  obtain ⟨h1, h2, h3⟩ := hd
  have m0 : lv 0 * lv 0 = lv 0 := by decide
  have n1 : ¬ lv 1 = 0 := by decide
  have d1 : lv 0 / lv 1 = lv 0 := by decide
  rcases hx4 with rfl | rfl
  · rcases h1 with z | z
    · have hl : live = n32 0 := by
        rcases h3 with h3 | h3
        · exact h3
        · rw [z, n32_01] at h3
          exact h3.elim
      simp only [b_M_termOf_76, b_M_termOf_83, b_M_termOf_90, b_M_termOf_98, b_M_termOf_106, b_M_termOf_107, b_M_termOf_113, b_M_termOf_126, b_M_termOf_130, b_M_termOf_134, z64, o64, cmp_eq Bg0 Bg0, z, hl, wI_same z, n1, d1, c_bounded_0 _ hG (Or.inl z), ax_psh_none, ax_psh_some, true_and, and_true, and_false, false_and, not_true_eq_false, not_false_eq_true, true_imp_iff, false_imp_iff, imp_self, or_true, true_or, or_false, false_or, and_self, ite_true, ite_false, if_true, if_false]
      rw [hl] at hq
      exact hq _ _ _
    · simp only [b_M_termOf_76, b_M_termOf_83, b_M_termOf_90, b_M_termOf_102, b_M_termOf_107, b_M_termOf_113, b_M_termOf_126, b_M_termOf_130, b_M_termOf_134, z64, o64, cmp_eq Bg0 Bg0, z, wI_same z, n1, d1, c_bounded_0 _ hG (Or.inr z), n32_10, ax_psh_none, ax_psh_some, true_and, and_true, and_false, false_and, not_true_eq_false, not_false_eq_true, true_imp_iff, false_imp_iff, imp_self, or_true, true_or, or_false, false_or, and_self, ite_true, ite_false, if_true, if_false]
      exact hq _ _ _
  · simp only [b_M_termOf_76, b_M_termOf_113, b_M_termOf_119, b_M_termOf_130, b_M_termOf_134, m0, c_bounded_0 _ hG h1, n32_10, ax_psh_none, ax_psh_some, true_and, and_true, and_false, false_and, not_true_eq_false, not_false_eq_true, true_imp_iff, false_imp_iff, imp_self, or_true, true_or, or_false, false_or, and_self, ite_true, ite_false, if_true, if_false]
    exact hq _ _ _
theorem sum_tail_d (d : Nat) {gi : GI} {g : AG} {Q : Option AV → AH → Prop} (hG : GOK g) {live : Int32} (hd : Dead gi live) (x4 : Int32) (hx4 : x4 = n32 0 ∨ x4 = n32 1) (o4 o5 o6 : Option AV) (hq : ∀ o4 o5 o6, Runs (d + 1) (m_M_sumOf, 6, [some (.inr (.inr (some (12, 0)))), some (.inl live), some (.inr (.inl (lv 0))), none, o4, o5, o6], []) (gi, g) Q) :
    Runs (d + 1) (m_M_sumOf, 76, [some (.inr (.inr (some (12, 0)))), some (.inl live), some (.inr (.inl (lv 0))), none, some (.inl x4), o5, o6], [.inr (.inl (lv 0))]) (gi, g) Q := by
  obtain ⟨h1, h2, h3⟩ := hd
  have m0 : lv 0 + lv 0 = lv 0 := by decide
  have m1 : lv 0 - lv 0 = lv 0 := by decide
  rcases hx4 with rfl | rfl
  · simp only [b_M_sumOf_76, b_M_sumOf_91, b_M_sumOf_95, b_M_sumOf_99, m1, c_bounded_0 _ hG h1, ax_psh_none, ax_psh_some, true_and, and_true, and_false, false_and, not_true_eq_false, not_false_eq_true, true_imp_iff, false_imp_iff, imp_self, or_true, true_or, or_false, false_or, and_self, ite_true, ite_false, if_true, if_false]
    exact hq _ _ _
  · simp only [b_M_sumOf_76, b_M_sumOf_84, b_M_sumOf_95, b_M_sumOf_99, m0, c_bounded_0 _ hG h1, n32_10, ax_psh_none, ax_psh_some, true_and, and_true, and_false, false_and, not_true_eq_false, not_false_eq_true, true_imp_iff, false_imp_iff, imp_self, or_true, true_or, or_false, false_or, and_self, ite_true, ite_false, if_true, if_false]
    exact hq _ _ _
theorem ev_sum_loop_d {c v : Nat → Nat} {N h : Nat} {it : PI Int} (hc : ∀ a, N ≤ a → c a = 0) (hib : IB N it) (hi : EvD c v N it m_M_termOf h) : ∀ (n d b : Nat) (e : Nat → Int) (gi : GI) (g : AG) (Q : Option AV → AH → Prop) (a p s : Nat) (k : List (Nat × Nat)) (m : (Nat → Int) → Option Int) (a' p' : Nat) (k' : List (Nat × Nat)) (m' : (Nat → Int) → Option Int) (live : Int32) (o4 o5 o6 : Option AV), h ≤ d + 1 → GOK g → EC gi c v N b e → gi 12 0 19 = n32 (b + a) → a ≤ N → N ≤ a + n → pLoop c 143 145 2 3 it s n a p k m = .inr (a', p', k', m') → Dead gi live →
    (∀ gi', Fr evMod gi gi' → gi' 12 0 19 = n32 (b + a') → gi' 12 0 21 = gi 12 0 21 → Q (some (.inr (.inl (lv 0)))) (gi', g)) →
    Runs (d + 1) (m_M_sumOf, 6, [some (.inr (.inr (some (12, 0)))), some (.inl live), some (.inr (.inl (lv 0))), none, o4, o5, o6], []) (gi, g) Q := by
  intro n
  induction n with
  | zero =>
    intro d b e gi g Q a p s k m a' p' k' m' live o4 o5 o6 hD hG hE hgo haN hn hk hd hq
    have hN : N ≤ 400 := hE.1
    have h0 := hc a (by omega)
    simp only [pLoop, Sum.inr.injEq, Prod.mk.injEq] at hk
    obtain ⟨rfl, -⟩ := hk
    rw [sumOf_he d hG hE (by omega) hgo (by rw [h0]; decide) (by rw [h0]; decide)]
    exact hq gi (Fr_refl _ _) hgo rfl
  | succ n ih =>
    intro d b e gi g Q a p s k m a' p' k' m' live o4 o5 o6 hD hG hE hgo haN hn hk hd hq
    have hN : N ≤ 400 := hE.1
    have fr1 : Fr evMod gi (ax_wI gi 12 0 19 (n32 (b + (a + 1)))) := Fr_wI (Fr_refl _ _) rfl
    by_cases h12 : c a = 143 ∨ c a = 145
    · have haN1 : a + 1 ≤ N := by
        rcases h12 with h1 | h1
        · exact c_lt hc h1 (by decide)
        · exact c_lt hc h1 (by decide)
      match hk1 : it (a + 1) p (s + k.length) with
      | .inl f =>
        rw [pLoop_f h12 hk1] at hk
        exact absurd hk (by simp)
      | .inr (a1, p1, kk, mm) =>
        have q1 := hib _ _ _ _ _ _ _ haN1 hk1
        have go : ∀ x4 : Int32, (x4 = n32 0 ∨ x4 = n32 1) → (∃ kz mz, pLoop c 143 145 2 3 it s n a1 p1 kz mz = .inr (a', p', k', m')) → Runs (d + 1) (m_M_sumOf, 59, [some (.inr (.inr (some (12, 0)))), some (.inl live), some (.inr (.inl (lv 0))), none, o4, o5, o6], [.inl x4]) (gi, g) Q := by
          intro x4 hx4 ⟨kz, mz, hz⟩
          rw [b_M_sumOf_59]
          simp only [hgo, n32_add, Nat.add_assoc, ax_kl_none]
          apply hi (d + 1) b e _ g _ (a + 1) p (s + k.length) a1 p1 kk mm live hD hG (EC_fr hE fr1) (by simp [wI_at]) haN1 hk1 (Dead_eq hd (by simp [wI_at]))
          intro gi' fr hgo' h21
          have h21' : gi' 12 0 21 = gi 12 0 21 := h21.trans (by simp [wI_at])
          have fr' := Fr_trans fr1 fr
          simp only [ax_psh_none, ax_psh_some, true_and, and_true, and_false, false_and, not_true_eq_false, not_false_eq_true, true_imp_iff, false_imp_iff, imp_self, or_true, true_or, or_false, false_or, and_self, ite_true, ite_false, if_true, if_false]
          refine sum_tail_d d hG (Dead_eq hd h21') x4 hx4 none _ _ (fun o4 o5 o6 => ?_)
          refine ih d b e gi' g Q a1 p1 s kz mz a' p' k' m' live o4 o5 o6 hD hG (EC_fr hE fr') hgo' q1.2 (by omega) hz (Dead_eq hd h21') ?_
          intro gi'' f1 f2 f3
          exact hq gi'' (Fr_trans fr' f1) f2 (f3.trans h21')
        by_cases h1 : c a = 143
        · rw [sumOf_h1 d hG hE (by omega) hgo h1]
          rw [pLoop_1 h1 hk1] at hk
          exact go _ (Or.inr rfl) ⟨_, _, hk⟩
        · have h2 : c a = 145 := by
            rcases h12 with z | z
            · exact absurd z h1
            · exact z
          rw [sumOf_h2 d hG hE (by omega) hgo h2]
          rw [pLoop_2 h1 h2 hk1] at hk
          exact go _ (Or.inl rfl) ⟨_, _, hk⟩
    · rw [sumOf_he d hG hE (by omega) hgo (fun z => h12 (Or.inl z)) (fun z => h12 (Or.inr z))]
      rw [pLoop_e (fun z => h12 (Or.inl z)) (fun z => h12 (Or.inr z))] at hk
      simp only [Sum.inr.injEq, Prod.mk.injEq] at hk
      obtain ⟨rfl, -⟩ := hk
      exact hq gi (Fr_refl _ _) hgo rfl
theorem ev_sum_d {c v : Nat → Nat} {N h : Nat} {it : PI Int} (hc : ∀ a, N ≤ a → c a = 0) (hib : IB N it) (hi : EvD c v N it m_M_termOf h) (hh : 1 ≤ h) : EvD c v N (pSeq c 143 145 2 3 it) m_M_sumOf (h + 1) := by
  intro D b e gi g Q a p s a' p' k m live hD hG hE hgo haN hk hd hq
  obtain ⟨d, rfl⟩ : ∃ d2, D = d2 + 2 := ⟨D - 2, by omega⟩
  have hN : N ≤ 400 := hE.1
  rw [e_M_sumOf, b_M_sumOf_0]
  match hk1 : it a p s with
  | .inl f =>
    simp only [pSeq, hk1] at hk
    exact absurd hk (by simp)
  | .inr (a1, p1, kk, mm) =>
    simp only [pSeq, hk1] at hk
    have q1 := hib _ _ _ _ _ _ _ haN hk1
    apply hi (d + 1) b e gi g _ a p s a1 p1 kk mm live (by omega) hG hE hgo haN hk1 hd
    intro gi' fr hgo' h21
    simp only [b_M_sumOf_5, ax_psh_none, ax_psh_some, true_and, and_true, and_false, false_and, not_true_eq_false, not_false_eq_true, true_imp_iff, false_imp_iff, imp_self, or_true, true_or, or_false, false_or, and_self, ite_true, ite_false, if_true, if_false]
    refine ev_sum_loop_d hc hib hi 400 d b e gi' g Q a1 p1 s kk mm a' p' k m live _ _ _ (by omega) hG (EC_fr hE fr) hgo' q1.2 (by omega) hk (Dead_eq hd h21) ?_
    intro gi'' f1 f2 f3
    exact hq gi'' (Fr_trans fr f1) f2 (f3.trans h21)
theorem ev_term_loop_d {c v : Nat → Nat} {N h : Nat} {it : PI Int} (hc : ∀ a, N ≤ a → c a = 0) (hib : IB N it) (hi : EvD c v N it m_M_partOf h) : ∀ (n d b : Nat) (e : Nat → Int) (gi : GI) (g : AG) (Q : Option AV → AH → Prop) (a p s : Nat) (k : List (Nat × Nat)) (m : (Nat → Int) → Option Int) (a' p' : Nat) (k' : List (Nat × Nat)) (m' : (Nat → Int) → Option Int) (live : Int32) (o4 o5 o6 : Option AV), h ≤ d + 1 → GOK g → EC gi c v N b e → gi 12 0 19 = n32 (b + a) → a ≤ N → N ≤ a + n → pLoop c 142 147 4 5 it s n a p k m = .inr (a', p', k', m') → Dead gi live →
    (∀ gi', Fr evMod gi gi' → gi' 12 0 19 = n32 (b + a') → gi' 12 0 21 = gi 12 0 21 → Q (some (.inr (.inl (lv 0)))) (gi', g)) →
    Runs (d + 1) (m_M_termOf, 6, [some (.inr (.inr (some (12, 0)))), some (.inl live), some (.inr (.inl (lv 0))), none, o4, o5, o6], []) (gi, g) Q := by
  intro n
  induction n with
  | zero =>
    intro d b e gi g Q a p s k m a' p' k' m' live o4 o5 o6 hD hG hE hgo haN hn hk hd hq
    have hN : N ≤ 400 := hE.1
    have h0 := hc a (by omega)
    simp only [pLoop, Sum.inr.injEq, Prod.mk.injEq] at hk
    obtain ⟨rfl, -⟩ := hk
    rw [termOf_he d hG hE (by omega) hgo (by rw [h0]; decide) (by rw [h0]; decide)]
    exact hq gi (Fr_refl _ _) hgo rfl
  | succ n ih =>
    intro d b e gi g Q a p s k m a' p' k' m' live o4 o5 o6 hD hG hE hgo haN hn hk hd hq
    have hN : N ≤ 400 := hE.1
    have fr1 : Fr evMod gi (ax_wI gi 12 0 19 (n32 (b + (a + 1)))) := Fr_wI (Fr_refl _ _) rfl
    by_cases h12 : c a = 142 ∨ c a = 147
    · have haN1 : a + 1 ≤ N := by
        rcases h12 with h1 | h1
        · exact c_lt hc h1 (by decide)
        · exact c_lt hc h1 (by decide)
      match hk1 : it (a + 1) p (s + k.length) with
      | .inl f =>
        rw [pLoop_f h12 hk1] at hk
        exact absurd hk (by simp)
      | .inr (a1, p1, kk, mm) =>
        have q1 := hib _ _ _ _ _ _ _ haN1 hk1
        have go : ∀ x4 : Int32, (x4 = n32 0 ∨ x4 = n32 1) → (∃ kz mz, pLoop c 142 147 4 5 it s n a1 p1 kz mz = .inr (a', p', k', m')) → Runs (d + 1) (m_M_termOf, 59, [some (.inr (.inr (some (12, 0)))), some (.inl live), some (.inr (.inl (lv 0))), none, o4, o5, o6], [.inl x4]) (gi, g) Q := by
          intro x4 hx4 ⟨kz, mz, hz⟩
          rw [b_M_termOf_59]
          simp only [hgo, n32_add, Nat.add_assoc, ax_kl_none]
          apply hi (d + 1) b e _ g _ (a + 1) p (s + k.length) a1 p1 kk mm live hD hG (EC_fr hE fr1) (by simp [wI_at]) haN1 hk1 (Dead_eq hd (by simp [wI_at]))
          intro gi' fr hgo' h21
          have h21' : gi' 12 0 21 = gi 12 0 21 := h21.trans (by simp [wI_at])
          have fr' := Fr_trans fr1 fr
          simp only [ax_psh_none, ax_psh_some, true_and, and_true, and_false, false_and, not_true_eq_false, not_false_eq_true, true_imp_iff, false_imp_iff, imp_self, or_true, true_or, or_false, false_or, and_self, ite_true, ite_false, if_true, if_false]
          refine term_tail_d d hG (Dead_eq hd h21') x4 hx4 none _ _ (fun o4 o5 o6 => ?_)
          refine ih d b e gi' g Q a1 p1 s kz mz a' p' k' m' live o4 o5 o6 hD hG (EC_fr hE fr') hgo' q1.2 (by omega) hz (Dead_eq hd h21') ?_
          intro gi'' f1 f2 f3
          exact hq gi'' (Fr_trans fr' f1) f2 (f3.trans h21')
        by_cases h1 : c a = 142
        · rw [termOf_h1 d hG hE (by omega) hgo h1]
          rw [pLoop_1 h1 hk1] at hk
          exact go _ (Or.inr rfl) ⟨_, _, hk⟩
        · have h2 : c a = 147 := by
            rcases h12 with z | z
            · exact absurd z h1
            · exact z
          rw [termOf_h2 d hG hE (by omega) hgo h2]
          rw [pLoop_2 h1 h2 hk1] at hk
          exact go _ (Or.inl rfl) ⟨_, _, hk⟩
    · rw [termOf_he d hG hE (by omega) hgo (fun z => h12 (Or.inl z)) (fun z => h12 (Or.inr z))]
      rw [pLoop_e (fun z => h12 (Or.inl z)) (fun z => h12 (Or.inr z))] at hk
      simp only [Sum.inr.injEq, Prod.mk.injEq] at hk
      obtain ⟨rfl, -⟩ := hk
      exact hq gi (Fr_refl _ _) hgo rfl
theorem ev_term_d {c v : Nat → Nat} {N h : Nat} {it : PI Int} (hc : ∀ a, N ≤ a → c a = 0) (hib : IB N it) (hi : EvD c v N it m_M_partOf h) (hh : 1 ≤ h) : EvD c v N (pSeq c 142 147 4 5 it) m_M_termOf (h + 1) := by
  intro D b e gi g Q a p s a' p' k m live hD hG hE hgo haN hk hd hq
  obtain ⟨d, rfl⟩ : ∃ d2, D = d2 + 2 := ⟨D - 2, by omega⟩
  have hN : N ≤ 400 := hE.1
  rw [e_M_termOf, b_M_termOf_0]
  match hk1 : it a p s with
  | .inl f =>
    simp only [pSeq, hk1] at hk
    exact absurd hk (by simp)
  | .inr (a1, p1, kk, mm) =>
    simp only [pSeq, hk1] at hk
    have q1 := hib _ _ _ _ _ _ _ haN hk1
    apply hi (d + 1) b e gi g _ a p s a1 p1 kk mm live (by omega) hG hE hgo haN hk1 hd
    intro gi' fr hgo' h21
    simp only [b_M_termOf_5, ax_psh_none, ax_psh_some, true_and, and_true, and_false, false_and, not_true_eq_false, not_false_eq_true, true_imp_iff, false_imp_iff, imp_self, or_true, true_or, or_false, false_or, and_self, ite_true, ite_false, if_true, if_false]
    refine ev_term_loop_d hc hib hi 400 d b e gi' g Q a1 p1 s kk mm a' p' k m live _ _ _ (by omega) hG (EC_fr hE fr) hgo' q1.2 (by omega) hk (Dead_eq hd h21) ?_
    intro gi'' f1 f2 f3
    exact hq gi'' (Fr_trans fr f1) f2 (f3.trans h21)
theorem pLoop_none {c : Nat → Nat} {o1 o2 k1 k2 s : Nat} {it : PI Int} {e : Nat → Int} : ∀ (n a p : Nat) (k : List (Nat × Nat)) (m : (Nat → Int) → Option Int) (a' p' : Nat) (k' : List (Nat × Nat)) (m' : (Nat → Int) → Option Int), m e = none → pLoop c o1 o2 k1 k2 it s n a p k m = .inr (a', p', k', m') → m' e = none := by
  intro n
  induction n with
  | zero =>
    intro a p k m a' p' k' m' hm h
    simp only [pLoop, Sum.inr.injEq, Prod.mk.injEq] at h
    obtain ⟨-, -, -, rfl⟩ := h
    exact hm
  | succ n ih =>
    intro a p k m a' p' k' m' hm h
    by_cases c1 : c a = o1 ∨ c a = o2
    · match hk : it (a + 1) p (s + k.length) with
      | .inl f =>
        rw [pLoop_f c1 hk] at h
        exact absurd h (by simp)
      | .inr (a1, p1, kk, mm) =>
        by_cases d1 : c a = o1
        · rw [pLoop_1 d1 hk] at h
          exact ih _ _ _ _ _ _ _ _ (by simp only [hm]; rfl) h
        · rw [pLoop_2 d1 (by rcases c1 with c1 | c1; exact absurd c1 d1; exact c1) hk] at h
          exact ih _ _ _ _ _ _ _ _ (by simp only [hm]; rfl) h
    · rw [pLoop_e (fun z => c1 (Or.inl z)) (fun z => c1 (Or.inr z))] at h
      simp only [Sum.inr.injEq, Prod.mk.injEq] at h
      obtain ⟨-, -, -, rfl⟩ := h
      exact hm
/-- behind a part that is asked: put together -/
theorem sum_tail_a (d : Nat) {gi : GI} {g : AG} {Q : Option AV → AH → Prop} (hG : GOK g) {x w : Int} (hx : Bd x) (hw : Bd w) (h21 : gi 12 0 21 = n32 0) (K : Nat) (x4 : Int32) (hx4 : x4 = n32 0 ∧ K = 3 ∨ x4 = n32 1 ∧ K = 2) (o5 o6 : Option AV) (hy : ∀ y o4 o5 o6, opI K x w = some y → Bd y → Runs (d + 1) (m_M_sumOf, 6, [some (.inr (.inr (some (12, 0)))), some (.inl (n32 1)), some (.inr (.inl (lv y))), none, o4, o5, o6], []) (gi, g) Q) (hn : ∀ o4 o5 o6, opI K x w = none → Runs (d + 1) (m_M_sumOf, 6, [some (.inr (.inr (some (12, 0)))), some (.inl (n32 1)), some (.inr (.inl (lv 0))), none, o4, o5, o6], []) (ax_wI gi 12 0 21 (n32 1), g) Q) :
    Runs (d + 1) (m_M_sumOf, 76, [some (.inr (.inr (some (12, 0)))), some (.inl (n32 1)), some (.inr (.inl (lv x))), none, some (.inl x4), o5, o6], [.inr (.inl (lv w))]) (gi, g) Q := by
  rcases hx4 with ⟨rfl, rfl⟩ | ⟨rfl, rfl⟩
  · by_cases hb : Bd (x - w)
    · simp only [b_M_sumOf_76, b_M_sumOf_91, b_M_sumOf_95, b_M_sumOf_99, lo_sub, c_bounded_y _ hG hb h21, ax_psh_none, ax_psh_some, true_and, and_true, and_false, false_and, not_true_eq_false, not_false_eq_true, true_imp_iff, false_imp_iff, imp_self, or_true, true_or, or_false, false_or, and_self, ite_true, ite_false, if_true, if_false]
      exact hy _ _ _ _ (limI_y hb) hb
    · simp only [b_M_sumOf_76, b_M_sumOf_91, b_M_sumOf_95, b_M_sumOf_99, lo_sub, c_bounded_n _ hG hb (Bg_sub hx hw), ax_psh_none, ax_psh_some, true_and, and_true, and_false, false_and, not_true_eq_false, not_false_eq_true, true_imp_iff, false_imp_iff, imp_self, or_true, true_or, or_false, false_or, and_self, ite_true, ite_false, if_true, if_false]
      exact hn _ _ _ (limI_n hb)
  · by_cases hb : Bd (x + w)
    · simp only [b_M_sumOf_76, b_M_sumOf_84, b_M_sumOf_95, b_M_sumOf_99, lo_add, c_bounded_y _ hG hb h21, n32_10, ax_psh_none, ax_psh_some, true_and, and_true, and_false, false_and, not_true_eq_false, not_false_eq_true, true_imp_iff, false_imp_iff, imp_self, or_true, true_or, or_false, false_or, and_self, ite_true, ite_false, if_true, if_false]
      exact hy _ _ _ _ (limI_y hb) hb
    · simp only [b_M_sumOf_76, b_M_sumOf_84, b_M_sumOf_95, b_M_sumOf_99, lo_add, c_bounded_n _ hG hb (Bg_add hx hw), n32_10, ax_psh_none, ax_psh_some, true_and, and_true, and_false, false_and, not_true_eq_false, not_false_eq_true, true_imp_iff, false_imp_iff, imp_self, or_true, true_or, or_false, false_or, and_self, ite_true, ite_false, if_true, if_false]
      exact hn _ _ _ (limI_n hb)
theorem sum_tail_b (d : Nat) {gi : GI} {g : AG} {Q : Option AV → AH → Prop} (hG : GOK g) {x : Int} (hx : Bd x) (h21 : gi 12 0 21 = n32 1) (x4 : Int32) (hx4 : x4 = n32 0 ∨ x4 = n32 1) (o5 o6 : Option AV) (hn : ∀ o4 o5 o6, Runs (d + 1) (m_M_sumOf, 6, [some (.inr (.inr (some (12, 0)))), some (.inl (n32 1)), some (.inr (.inl (lv 0))), none, o4, o5, o6], []) (gi, g) Q) :
    Runs (d + 1) (m_M_sumOf, 76, [some (.inr (.inr (some (12, 0)))), some (.inl (n32 1)), some (.inr (.inl (lv x))), none, some (.inl x4), o5, o6], [.inr (.inl (lv 0))]) (gi, g) Q := by
  rcases hx4 with rfl | rfl
  · simp only [b_M_sumOf_76, b_M_sumOf_91, b_M_sumOf_95, b_M_sumOf_99, lo_sub, Int.sub_zero, c_bounded_b _ hG hx h21, ax_psh_none, ax_psh_some, true_and, and_true, and_false, false_and, not_true_eq_false, not_false_eq_true, true_imp_iff, false_imp_iff, imp_self, or_true, true_or, or_false, false_or, and_self, ite_true, ite_false, if_true, if_false]
    exact hn _ _ _
  · simp only [b_M_sumOf_76, b_M_sumOf_84, b_M_sumOf_95, b_M_sumOf_99, lo_add, Int.add_zero, c_bounded_b _ hG hx h21, n32_10, ax_psh_none, ax_psh_some, true_and, and_true, and_false, false_and, not_true_eq_false, not_false_eq_true, true_imp_iff, false_imp_iff, imp_self, or_true, true_or, or_false, false_or, and_self, ite_true, ite_false, if_true, if_false]
    exact hn _ _ _
theorem term_tail_a (d : Nat) {gi : GI} {g : AG} {Q : Option AV → AH → Prop} (hG : GOK g) {x w : Int} (hx : Bd x) (hw : Bd w) (h21 : gi 12 0 21 = n32 0) (K : Nat) (x4 : Int32) (hx4 : x4 = n32 0 ∧ K = 5 ∨ x4 = n32 1 ∧ K = 4) (o5 o6 : Option AV) (hy : ∀ y o4 o5 o6, opI K x w = some y → Bd y → Runs (d + 1) (m_M_termOf, 6, [some (.inr (.inr (some (12, 0)))), some (.inl (n32 1)), some (.inr (.inl (lv y))), none, o4, o5, o6], []) (gi, g) Q) (hn : ∀ o4 o5 o6, opI K x w = none → Runs (d + 1) (m_M_termOf, 6, [some (.inr (.inr (some (12, 0)))), some (.inl (n32 1)), some (.inr (.inl (lv 0))), none, o4, o5, o6], []) (ax_wI gi 12 0 21 (n32 1), g) Q) :
    Runs (d + 1) (m_M_termOf, 76, [some (.inr (.inr (some (12, 0)))), some (.inl (n32 1)), some (.inr (.inl (lv x))), none, some (.inl x4), o5, o6], [.inr (.inl (lv w))]) (gi, g) Q := by
  have w21 : ax_wI gi 12 0 21 (n32 1) 12 0 21 = n32 1 := by simp [wI_at]
  have n1 : ¬ lv 1 = 0 := by decide
  rcases hx4 with ⟨rfl, rfl⟩ | ⟨rfl, rfl⟩
  · by_cases h0 : w = 0
    · subst h0
      simp only [b_M_termOf_76, b_M_termOf_83, b_M_termOf_90, b_M_termOf_98, b_M_termOf_102, b_M_termOf_107, b_M_termOf_113, b_M_termOf_126, b_M_termOf_130, b_M_termOf_134, z64, o64, cmp_eq Bg0 Bg0, h21, n1, div_1 hx, c_bounded_b _ hG hx w21, n32_10, ax_psh_none, ax_psh_some, true_and, and_true, and_false, false_and, not_true_eq_false, not_false_eq_true, true_imp_iff, false_imp_iff, imp_self, or_true, true_or, or_false, false_or, and_self, ite_true, ite_false, if_true, if_false]
      exact hn _ _ _ rfl
    · have hb := Bd_div (b := w) hx
      simp only [b_M_termOf_76, b_M_termOf_83, b_M_termOf_113, b_M_termOf_126, b_M_termOf_130, b_M_termOf_134, z64, cmp_eq (Bd_g hw) Bg0, h0, lo_ne0 (Bd_g hw) h0, lo_div hx hw, c_bounded_y _ hG hb h21, ax_psh_none, ax_psh_some, true_and, and_true, and_false, false_and, not_true_eq_false, not_false_eq_true, true_imp_iff, false_imp_iff, imp_self, or_true, true_or, or_false, false_or, and_self, ite_true, ite_false, if_true, if_false]
      exact hy _ _ _ _ (by show (if w = 0 then none else limI (x.tdiv w)) = _; rw [if_neg h0, limI_y hb]) hb
  · by_cases hb : Bd (x * w)
    · simp only [b_M_termOf_76, b_M_termOf_113, b_M_termOf_119, b_M_termOf_130, b_M_termOf_134, lo_mul, c_bounded_y _ hG hb h21, n32_10, ax_psh_none, ax_psh_some, true_and, and_true, and_false, false_and, not_true_eq_false, not_false_eq_true, true_imp_iff, false_imp_iff, imp_self, or_true, true_or, or_false, false_or, and_self, ite_true, ite_false, if_true, if_false]
      exact hy _ _ _ _ (limI_y hb) hb
    · simp only [b_M_termOf_76, b_M_termOf_113, b_M_termOf_119, b_M_termOf_130, b_M_termOf_134, lo_mul, c_bounded_n _ hG hb (Bg_mul hx hw), n32_10, ax_psh_none, ax_psh_some, true_and, and_true, and_false, false_and, not_true_eq_false, not_false_eq_true, true_imp_iff, false_imp_iff, imp_self, or_true, true_or, or_false, false_or, and_self, ite_true, ite_false, if_true, if_false]
      exact hn _ _ _ (limI_n hb)
theorem term_tail_b (d : Nat) {gi : GI} {g : AG} {Q : Option AV → AH → Prop} (hG : GOK g) {x : Int} (hx : Bd x) (h21 : gi 12 0 21 = n32 1) (x4 : Int32) (hx4 : x4 = n32 0 ∨ x4 = n32 1) (o5 o6 : Option AV) (hn : ∀ o4 o5 o6, Runs (d + 1) (m_M_termOf, 6, [some (.inr (.inr (some (12, 0)))), some (.inl (n32 1)), some (.inr (.inl (lv 0))), none, o4, o5, o6], []) (gi, g) Q) :
    Runs (d + 1) (m_M_termOf, 76, [some (.inr (.inr (some (12, 0)))), some (.inl (n32 1)), some (.inr (.inl (lv x))), none, some (.inl x4), o5, o6], [.inr (.inl (lv 0))]) (gi, g) Q := by
  have n1 : ¬ lv 1 = 0 := by decide
  rcases hx4 with rfl | rfl
  · simp only [b_M_termOf_76, b_M_termOf_83, b_M_termOf_90, b_M_termOf_102, b_M_termOf_107, b_M_termOf_113, b_M_termOf_126, b_M_termOf_130, b_M_termOf_134, z64, o64, cmp_eq Bg0 Bg0, h21, wI_same h21, n1, div_1 hx, c_bounded_b _ hG hx h21, n32_10, ax_psh_none, ax_psh_some, true_and, and_true, and_false, false_and, not_true_eq_false, not_false_eq_true, true_imp_iff, false_imp_iff, imp_self, or_true, true_or, or_false, false_or, and_self, ite_true, ite_false, if_true, if_false]
    exact hn _ _ _
  · simp only [b_M_termOf_76, b_M_termOf_113, b_M_termOf_119, b_M_termOf_130, b_M_termOf_134, lo_mul, Int.mul_zero, c_bounded_b _ hG Bd0 h21, n32_10, ax_psh_none, ax_psh_some, true_and, and_true, and_false, false_and, not_true_eq_false, not_false_eq_true, true_imp_iff, false_imp_iff, imp_self, or_true, true_or, or_false, false_or, and_self, ite_true, ite_false, if_true, if_false]
    exact hn _ _ _
theorem ev_sum_loop_a {c v : Nat → Nat} {N h : Nat} {it : PI Int} (hc : ∀ a, N ≤ a → c a = 0) (hib : IB N it) (hid : EvD c v N it m_M_termOf h) (hi : EvA c v N it m_M_termOf h) : ∀ (n d b : Nat) (e : Nat → Int) (gi : GI) (g : AG) (Q : Option AV → AH → Prop) (a p s : Nat) (k : List (Nat × Nat)) (m : (Nat → Int) → Option Int) (a' p' : Nat) (k' : List (Nat × Nat)) (m' : (Nat → Int) → Option Int) (x : Int) (o4 o5 o6 : Option AV), h ≤ d + 1 → GOK g → EC gi c v N b e → gi 12 0 19 = n32 (b + a) → a ≤ N → N ≤ a + n → pLoop c 143 145 2 3 it s n a p k m = .inr (a', p', k', m') → m e = some x → Bd x → gi 12 0 21 = n32 0 →
    (∀ x gi', m' e = some x → Bd x → Fr evMod gi gi' → gi' 12 0 19 = n32 (b + a') → gi' 12 0 21 = n32 0 → Q (some (.inr (.inl (lv x)))) (gi', g)) →
    (∀ gi', m' e = none → Fr evMod gi gi' → gi' 12 0 19 = n32 (b + a') → gi' 12 0 21 = n32 1 → Q (some (.inr (.inl (lv 0)))) (gi', g)) →
    Runs (d + 1) (m_M_sumOf, 6, [some (.inr (.inr (some (12, 0)))), some (.inl (n32 1)), some (.inr (.inl (lv x))), none, o4, o5, o6], []) (gi, g) Q := by
  intro n
  induction n with
  | zero =>
    intro d b e gi g Q a p s k m a' p' k' m' x o4 o5 o6 hD hG hE hgo haN hn hk hm bx h21 hy hno
    have hN : N ≤ 400 := hE.1
    have h0 := hc a (by omega)
    simp only [pLoop, Sum.inr.injEq, Prod.mk.injEq] at hk
    obtain ⟨rfl, -, -, rfl⟩ := hk
    rw [sumOf_he d hG hE (by omega) hgo (by rw [h0]; decide) (by rw [h0]; decide)]
    exact hy x gi hm bx (Fr_refl _ _) hgo h21
  | succ n ih =>
    intro d b e gi g Q a p s k m a' p' k' m' x o4 o5 o6 hD hG hE hgo haN hn hk hm bx h21 hy hno
    have hN : N ≤ 400 := hE.1
    have fr1 : Fr evMod gi (ax_wI gi 12 0 19 (n32 (b + (a + 1)))) := Fr_wI (Fr_refl _ _) rfl
    by_cases h12 : c a = 143 ∨ c a = 145
    · have haN1 : a + 1 ≤ N := by
        rcases h12 with h1 | h1
        · exact c_lt hc h1 (by decide)
        · exact c_lt hc h1 (by decide)
      match hk1 : it (a + 1) p (s + k.length) with
      | .inl f =>
        rw [pLoop_f h12 hk1] at hk
        exact absurd hk (by simp)
      | .inr (a1, p1, kk, mm) =>
        have q1 := hib _ _ _ _ _ _ _ haN1 hk1
        have go : ∀ (x4 : Int32) (K : Nat), (x4 = n32 0 ∧ K = 3 ∨ x4 = n32 1 ∧ K = 2) → (∃ kz, pLoop c 143 145 2 3 it s n a1 p1 kz (fun e => op2 (opI K) (m e) (mm e)) = .inr (a', p', k', m')) → Runs (d + 1) (m_M_sumOf, 59, [some (.inr (.inr (some (12, 0)))), some (.inl (n32 1)), some (.inr (.inl (lv x))), none, o4, o5, o6], [.inl x4]) (gi, g) Q := by
          intro x4 K hx4 ⟨kz, hz⟩
          have hx4' : x4 = n32 0 ∨ x4 = n32 1 := by
            rcases hx4 with h | h
            · exact Or.inl h.1
            · exact Or.inr h.1
          rw [b_M_sumOf_59]
          simp only [hgo, n32_add, Nat.add_assoc, ax_kl_none]
          apply hi (d + 1) b e _ g _ (a + 1) p (s + k.length) a1 p1 kk mm hD hG (EC_fr hE fr1) (by simp [wI_at]) haN1 hk1 (by simp [wI_at, h21])
          · intro w gi' hw bw fr hgo' h21'
            have fr' := Fr_trans fr1 fr
            simp only [ax_psh_none, ax_psh_some, true_and, and_true, and_false, false_and, not_true_eq_false, not_false_eq_true, true_imp_iff, false_imp_iff, imp_self, or_true, true_or, or_false, false_or, and_self, ite_true, ite_false, if_true, if_false]
            refine sum_tail_a d hG bx bw h21' K x4 hx4 _ _ ?_ ?_
            · intro y o4 o5 o6 hop bY
              refine ih d b e gi' g Q a1 p1 s kz _ a' p' k' m' y o4 o5 o6 hD hG (EC_fr hE fr') hgo' q1.2 (by omega) hz (by simp only [hm, hw]; exact hop) bY h21' ?_ ?_
              · intro z gi'' z1 z2 z3 z4 z5
                exact hy z gi'' z1 z2 (Fr_trans fr' z3) z4 z5
              · intro gi'' z1 z3 z4 z5
                exact hno gi'' z1 (Fr_trans fr' z3) z4 z5
            · intro o4 o5 o6 hop
              have fr2 : Fr evMod gi (ax_wI gi' 12 0 21 (n32 1)) := Fr_wI fr' rfl
              have w1 : ax_wI gi' 12 0 21 (n32 1) 12 0 21 = n32 1 := by simp [wI_at]
              refine ev_sum_loop_d hc hib hid n d b e _ g Q a1 p1 s kz _ a' p' k' m' (n32 1) o4 o5 o6 hD hG (EC_fr hE fr2) (by simp [wI_at, hgo']) q1.2 (by omega) hz ⟨Or.inr w1, Or.inr rfl, Or.inr w1⟩ ?_
              intro gi'' z3 z4 z5
              exact hno gi'' (pLoop_none _ _ _ _ _ _ _ _ _ (by simp only [hm, hw]; exact hop) hz) (Fr_trans fr2 z3) z4 (z5.trans w1)
          · intro gi' hw fr hgo' h21'
            have fr' := Fr_trans fr1 fr
            simp only [ax_psh_none, ax_psh_some, true_and, and_true, and_false, false_and, not_true_eq_false, not_false_eq_true, true_imp_iff, false_imp_iff, imp_self, or_true, true_or, or_false, false_or, and_self, ite_true, ite_false, if_true, if_false]
            refine sum_tail_b d hG bx h21' x4 hx4' _ _ ?_
            intro o4 o5 o6
            refine ev_sum_loop_d hc hib hid n d b e gi' g Q a1 p1 s kz _ a' p' k' m' (n32 1) o4 o5 o6 hD hG (EC_fr hE fr') hgo' q1.2 (by omega) hz ⟨Or.inr h21', Or.inr rfl, Or.inr h21'⟩ ?_
            intro gi'' z3 z4 z5
            exact hno gi'' (pLoop_none _ _ _ _ _ _ _ _ _ (by simp only [hm, hw]; rfl) hz) (Fr_trans fr' z3) z4 (z5.trans h21')
        by_cases h1 : c a = 143
        · rw [sumOf_h1 d hG hE (by omega) hgo h1]
          rw [pLoop_1 h1 hk1] at hk
          exact go _ 2 (Or.inr ⟨rfl, rfl⟩) ⟨_, hk⟩
        · have h2 : c a = 145 := by
            rcases h12 with z | z
            · exact absurd z h1
            · exact z
          rw [sumOf_h2 d hG hE (by omega) hgo h2]
          rw [pLoop_2 h1 h2 hk1] at hk
          exact go _ 3 (Or.inl ⟨rfl, rfl⟩) ⟨_, hk⟩
    · rw [sumOf_he d hG hE (by omega) hgo (fun z => h12 (Or.inl z)) (fun z => h12 (Or.inr z))]
      rw [pLoop_e (fun z => h12 (Or.inl z)) (fun z => h12 (Or.inr z))] at hk
      simp only [Sum.inr.injEq, Prod.mk.injEq] at hk
      obtain ⟨rfl, -, -, rfl⟩ := hk
      exact hy x gi hm bx (Fr_refl _ _) hgo h21
theorem ev_sum_a {c v : Nat → Nat} {N h : Nat} {it : PI Int} (hc : ∀ a, N ≤ a → c a = 0) (hib : IB N it) (hid : EvD c v N it m_M_termOf h) (hi : EvA c v N it m_M_termOf h) (hh : 1 ≤ h) : EvA c v N (pSeq c 143 145 2 3 it) m_M_sumOf (h + 1) := by
  intro D b e gi g Q a p s a' p' k m hD hG hE hgo haN hk h21 hy hno
  obtain ⟨d, rfl⟩ : ∃ d2, D = d2 + 2 := ⟨D - 2, by omega⟩
  have hN : N ≤ 400 := hE.1
  rw [e_M_sumOf, b_M_sumOf_0]
  match hk1 : it a p s with
  | .inl f =>
    simp only [pSeq, hk1] at hk
    exact absurd hk (by simp)
  | .inr (a1, p1, kk, mm) =>
    simp only [pSeq, hk1] at hk
    have q1 := hib _ _ _ _ _ _ _ haN hk1
    apply hi (d + 1) b e gi g _ a p s a1 p1 kk mm (by omega) hG hE hgo haN hk1 h21
    · intro x gi' hx bx fr hgo' h21'
      simp only [b_M_sumOf_5, ax_psh_none, ax_psh_some, true_and, and_true, and_false, false_and, not_true_eq_false, not_false_eq_true, true_imp_iff, false_imp_iff, imp_self, or_true, true_or, or_false, false_or, and_self, ite_true, ite_false, if_true, if_false]
      refine ev_sum_loop_a hc hib hid hi 400 d b e gi' g Q a1 p1 s kk mm a' p' k m x _ _ _ (by omega) hG (EC_fr hE fr) hgo' q1.2 (by omega) hk hx bx h21' ?_ ?_
      · intro z gi'' z1 z2 z3 z4 z5
        exact hy z gi'' z1 z2 (Fr_trans fr z3) z4 z5
      · intro gi'' z1 z3 z4 z5
        exact hno gi'' z1 (Fr_trans fr z3) z4 z5
    · intro gi' hx fr hgo' h21'
      simp only [b_M_sumOf_5, ax_psh_none, ax_psh_some, true_and, and_true, and_false, false_and, not_true_eq_false, not_false_eq_true, true_imp_iff, false_imp_iff, imp_self, or_true, true_or, or_false, false_or, and_self, ite_true, ite_false, if_true, if_false]
      refine ev_sum_loop_d hc hib hid 400 d b e gi' g Q a1 p1 s kk mm a' p' k m (n32 1) _ _ _ (by omega) hG (EC_fr hE fr) hgo' q1.2 (by omega) hk ⟨Or.inr h21', Or.inr rfl, Or.inr h21'⟩ ?_
      intro gi'' z3 z4 z5
      exact hno gi'' (pLoop_none _ _ _ _ _ _ _ _ _ hx hk) (Fr_trans fr z3) z4 (z5.trans h21')
theorem ev_term_loop_a {c v : Nat → Nat} {N h : Nat} {it : PI Int} (hc : ∀ a, N ≤ a → c a = 0) (hib : IB N it) (hid : EvD c v N it m_M_partOf h) (hi : EvA c v N it m_M_partOf h) : ∀ (n d b : Nat) (e : Nat → Int) (gi : GI) (g : AG) (Q : Option AV → AH → Prop) (a p s : Nat) (k : List (Nat × Nat)) (m : (Nat → Int) → Option Int) (a' p' : Nat) (k' : List (Nat × Nat)) (m' : (Nat → Int) → Option Int) (x : Int) (o4 o5 o6 : Option AV), h ≤ d + 1 → GOK g → EC gi c v N b e → gi 12 0 19 = n32 (b + a) → a ≤ N → N ≤ a + n → pLoop c 142 147 4 5 it s n a p k m = .inr (a', p', k', m') → m e = some x → Bd x → gi 12 0 21 = n32 0 →
    (∀ x gi', m' e = some x → Bd x → Fr evMod gi gi' → gi' 12 0 19 = n32 (b + a') → gi' 12 0 21 = n32 0 → Q (some (.inr (.inl (lv x)))) (gi', g)) →
    (∀ gi', m' e = none → Fr evMod gi gi' → gi' 12 0 19 = n32 (b + a') → gi' 12 0 21 = n32 1 → Q (some (.inr (.inl (lv 0)))) (gi', g)) →
    Runs (d + 1) (m_M_termOf, 6, [some (.inr (.inr (some (12, 0)))), some (.inl (n32 1)), some (.inr (.inl (lv x))), none, o4, o5, o6], []) (gi, g) Q := by
  intro n
  induction n with
  | zero =>
    intro d b e gi g Q a p s k m a' p' k' m' x o4 o5 o6 hD hG hE hgo haN hn hk hm bx h21 hy hno
    have hN : N ≤ 400 := hE.1
    have h0 := hc a (by omega)
    simp only [pLoop, Sum.inr.injEq, Prod.mk.injEq] at hk
    obtain ⟨rfl, -, -, rfl⟩ := hk
    rw [termOf_he d hG hE (by omega) hgo (by rw [h0]; decide) (by rw [h0]; decide)]
    exact hy x gi hm bx (Fr_refl _ _) hgo h21
  | succ n ih =>
    intro d b e gi g Q a p s k m a' p' k' m' x o4 o5 o6 hD hG hE hgo haN hn hk hm bx h21 hy hno
    have hN : N ≤ 400 := hE.1
    have fr1 : Fr evMod gi (ax_wI gi 12 0 19 (n32 (b + (a + 1)))) := Fr_wI (Fr_refl _ _) rfl
    by_cases h12 : c a = 142 ∨ c a = 147
    · have haN1 : a + 1 ≤ N := by
        rcases h12 with h1 | h1
        · exact c_lt hc h1 (by decide)
        · exact c_lt hc h1 (by decide)
      match hk1 : it (a + 1) p (s + k.length) with
      | .inl f =>
        rw [pLoop_f h12 hk1] at hk
        exact absurd hk (by simp)
      | .inr (a1, p1, kk, mm) =>
        have q1 := hib _ _ _ _ _ _ _ haN1 hk1
        have go : ∀ (x4 : Int32) (K : Nat), (x4 = n32 0 ∧ K = 5 ∨ x4 = n32 1 ∧ K = 4) → (∃ kz, pLoop c 142 147 4 5 it s n a1 p1 kz (fun e => op2 (opI K) (m e) (mm e)) = .inr (a', p', k', m')) → Runs (d + 1) (m_M_termOf, 59, [some (.inr (.inr (some (12, 0)))), some (.inl (n32 1)), some (.inr (.inl (lv x))), none, o4, o5, o6], [.inl x4]) (gi, g) Q := by
          intro x4 K hx4 ⟨kz, hz⟩
          have hx4' : x4 = n32 0 ∨ x4 = n32 1 := by
            rcases hx4 with h | h
            · exact Or.inl h.1
            · exact Or.inr h.1
          rw [b_M_termOf_59]
          simp only [hgo, n32_add, Nat.add_assoc, ax_kl_none]
          apply hi (d + 1) b e _ g _ (a + 1) p (s + k.length) a1 p1 kk mm hD hG (EC_fr hE fr1) (by simp [wI_at]) haN1 hk1 (by simp [wI_at, h21])
          · intro w gi' hw bw fr hgo' h21'
            have fr' := Fr_trans fr1 fr
            simp only [ax_psh_none, ax_psh_some, true_and, and_true, and_false, false_and, not_true_eq_false, not_false_eq_true, true_imp_iff, false_imp_iff, imp_self, or_true, true_or, or_false, false_or, and_self, ite_true, ite_false, if_true, if_false]
            refine term_tail_a d hG bx bw h21' K x4 hx4 _ _ ?_ ?_
            · intro y o4 o5 o6 hop bY
              refine ih d b e gi' g Q a1 p1 s kz _ a' p' k' m' y o4 o5 o6 hD hG (EC_fr hE fr') hgo' q1.2 (by omega) hz (by simp only [hm, hw]; exact hop) bY h21' ?_ ?_
              · intro z gi'' z1 z2 z3 z4 z5
                exact hy z gi'' z1 z2 (Fr_trans fr' z3) z4 z5
              · intro gi'' z1 z3 z4 z5
                exact hno gi'' z1 (Fr_trans fr' z3) z4 z5
            · intro o4 o5 o6 hop
              have fr2 : Fr evMod gi (ax_wI gi' 12 0 21 (n32 1)) := Fr_wI fr' rfl
              have w1 : ax_wI gi' 12 0 21 (n32 1) 12 0 21 = n32 1 := by simp [wI_at]
              refine ev_term_loop_d hc hib hid n d b e _ g Q a1 p1 s kz _ a' p' k' m' (n32 1) o4 o5 o6 hD hG (EC_fr hE fr2) (by simp [wI_at, hgo']) q1.2 (by omega) hz ⟨Or.inr w1, Or.inr rfl, Or.inr w1⟩ ?_
              intro gi'' z3 z4 z5
              exact hno gi'' (pLoop_none _ _ _ _ _ _ _ _ _ (by simp only [hm, hw]; exact hop) hz) (Fr_trans fr2 z3) z4 (z5.trans w1)
          · intro gi' hw fr hgo' h21'
            have fr' := Fr_trans fr1 fr
            simp only [ax_psh_none, ax_psh_some, true_and, and_true, and_false, false_and, not_true_eq_false, not_false_eq_true, true_imp_iff, false_imp_iff, imp_self, or_true, true_or, or_false, false_or, and_self, ite_true, ite_false, if_true, if_false]
            refine term_tail_b d hG bx h21' x4 hx4' _ _ ?_
            intro o4 o5 o6
            refine ev_term_loop_d hc hib hid n d b e gi' g Q a1 p1 s kz _ a' p' k' m' (n32 1) o4 o5 o6 hD hG (EC_fr hE fr') hgo' q1.2 (by omega) hz ⟨Or.inr h21', Or.inr rfl, Or.inr h21'⟩ ?_
            intro gi'' z3 z4 z5
            exact hno gi'' (pLoop_none _ _ _ _ _ _ _ _ _ (by simp only [hm, hw]; rfl) hz) (Fr_trans fr' z3) z4 (z5.trans h21')
        by_cases h1 : c a = 142
        · rw [termOf_h1 d hG hE (by omega) hgo h1]
          rw [pLoop_1 h1 hk1] at hk
          exact go _ 4 (Or.inr ⟨rfl, rfl⟩) ⟨_, hk⟩
        · have h2 : c a = 147 := by
            rcases h12 with z | z
            · exact absurd z h1
            · exact z
          rw [termOf_h2 d hG hE (by omega) hgo h2]
          rw [pLoop_2 h1 h2 hk1] at hk
          exact go _ 5 (Or.inl ⟨rfl, rfl⟩) ⟨_, hk⟩
    · rw [termOf_he d hG hE (by omega) hgo (fun z => h12 (Or.inl z)) (fun z => h12 (Or.inr z))]
      rw [pLoop_e (fun z => h12 (Or.inl z)) (fun z => h12 (Or.inr z))] at hk
      simp only [Sum.inr.injEq, Prod.mk.injEq] at hk
      obtain ⟨rfl, -, -, rfl⟩ := hk
      exact hy x gi hm bx (Fr_refl _ _) hgo h21
theorem ev_term_a {c v : Nat → Nat} {N h : Nat} {it : PI Int} (hc : ∀ a, N ≤ a → c a = 0) (hib : IB N it) (hid : EvD c v N it m_M_partOf h) (hi : EvA c v N it m_M_partOf h) (hh : 1 ≤ h) : EvA c v N (pSeq c 142 147 4 5 it) m_M_termOf (h + 1) := by
  intro D b e gi g Q a p s a' p' k m hD hG hE hgo haN hk h21 hy hno
  obtain ⟨d, rfl⟩ : ∃ d2, D = d2 + 2 := ⟨D - 2, by omega⟩
  have hN : N ≤ 400 := hE.1
  rw [e_M_termOf, b_M_termOf_0]
  match hk1 : it a p s with
  | .inl f =>
    simp only [pSeq, hk1] at hk
    exact absurd hk (by simp)
  | .inr (a1, p1, kk, mm) =>
    simp only [pSeq, hk1] at hk
    have q1 := hib _ _ _ _ _ _ _ haN hk1
    apply hi (d + 1) b e gi g _ a p s a1 p1 kk mm (by omega) hG hE hgo haN hk1 h21
    · intro x gi' hx bx fr hgo' h21'
      simp only [b_M_termOf_5, ax_psh_none, ax_psh_some, true_and, and_true, and_false, false_and, not_true_eq_false, not_false_eq_true, true_imp_iff, false_imp_iff, imp_self, or_true, true_or, or_false, false_or, and_self, ite_true, ite_false, if_true, if_false]
      refine ev_term_loop_a hc hib hid hi 400 d b e gi' g Q a1 p1 s kk mm a' p' k m x _ _ _ (by omega) hG (EC_fr hE fr) hgo' q1.2 (by omega) hk hx bx h21' ?_ ?_
      · intro z gi'' z1 z2 z3 z4 z5
        exact hy z gi'' z1 z2 (Fr_trans fr z3) z4 z5
      · intro gi'' z1 z3 z4 z5
        exact hno gi'' z1 (Fr_trans fr z3) z4 z5
    · intro gi' hx fr hgo' h21'
      simp only [b_M_termOf_5, ax_psh_none, ax_psh_some, true_and, and_true, and_false, false_and, not_true_eq_false, not_false_eq_true, true_imp_iff, false_imp_iff, imp_self, or_true, true_or, or_false, false_or, and_self, ite_true, ite_false, if_true, if_false]
      refine ev_term_loop_d hc hib hid 400 d b e gi' g Q a1 p1 s kk mm a' p' k m (n32 1) _ _ _ (by omega) hG (EC_fr hE fr) hgo' q1.2 (by omega) hk ⟨Or.inr h21', Or.inr rfl, Or.inr h21'⟩ ?_
      intro gi'' z3 z4 z5
      exact hno gi'' (pLoop_none _ _ _ _ _ _ _ _ _ hx hk) (Fr_trans fr z3) z4 (z5.trans h21')
