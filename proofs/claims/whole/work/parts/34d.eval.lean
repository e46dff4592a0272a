/-! the reference's going through: tests -/
def EvDB (c v : Nat → Nat) (N : Nat) (it : PI Bool) (mt h : Nat) : Prop :=
  ∀ (D b : Nat) (e : Nat → Int) (gi : GI) (g : AG) (Q : Option AV → AH → Prop) (a p s a' p' : Nat) (k : List (Nat × Nat)) (m : (Nat → Int) → Option Bool) (lb : Bool), h ≤ D → GOK g → EC gi c v N b e → gi 12 0 19 = n32 (b + a) → a ≤ N → it a p s = .inr (a', p', k, m) → Dead gi (b32 lb) →
  (∀ w gi', Fr evMod gi gi' → gi' 12 0 19 = n32 (b + a') → gi' 12 0 21 = gi 12 0 21 → Q (some (.inl (b32 w))) (gi', g)) →
  ax_call D mt [.inr (.inr (some (12, 0))), .inl (b32 lb)] (gi, g) Q
def EvAB (c v : Nat → Nat) (N : Nat) (it : PI Bool) (mt h : Nat) : Prop :=
  ∀ (D b : Nat) (e : Nat → Int) (gi : GI) (g : AG) (Q : Option AV → AH → Prop) (a p s a' p' : Nat) (k : List (Nat × Nat)) (m : (Nat → Int) → Option Bool), h ≤ D → GOK g → EC gi c v N b e → gi 12 0 19 = n32 (b + a) → a ≤ N → it a p s = .inr (a', p', k, m) → gi 12 0 21 = n32 0 →
  (∀ y gi', m e = some y → Fr evMod gi gi' → gi' 12 0 19 = n32 (b + a') → gi' 12 0 21 = n32 0 → Q (some (.inl (b32 y))) (gi', g)) →
  (∀ w gi', m e = none → Fr evMod gi gi' → gi' 12 0 19 = n32 (b + a') → gi' 12 0 21 = n32 1 → Q (some (.inl (b32 w))) (gi', g)) →
  ax_call D mt [.inr (.inr (some (12, 0))), .inl (b32 true)] (gi, g) Q
theorem b32_0 : b32 false = n32 0 := rfl
theorem b32_1 : b32 true = n32 1 := rfl
theorem b32_d (b : Bool) : b32 b = n32 0 ∨ b32 b = n32 1 := by
  cases b
  · exact Or.inl rfl
  · exact Or.inr rfl
def jn (sh v w : Bool) : Bool := if sh = true then v || w else v && w
theorem testOf_call (d : Nat) (gi : GI) (g : AG) (Q : Option AV → AH → Prop) (lb x : Bool) (o3 : Option AV) : Runs d (m_M_testOf, 14, [some (.inr (.inr (some (12, 0)))), some (.inl (b32 lb)), some (.inl (b32 x)), o3], []) (gi, g) Q = Runs d (m_M_testOf, 28, [some (.inr (.inr (some (12, 0)))), some (.inl (b32 lb)), some (.inl (b32 x)), o3], [.inl (b32 (lb && (x != true))), .inr (.inr (some (12, 0)))]) (gi, g) Q := by
  cases lb <;> cases x <;> simp only [b_M_testOf_14, b_M_testOf_19, b_M_testOf_23, b_M_testOf_27, b32_0, b32_1, n32_10, ax_psh_none, ax_psh_some, true_and, and_true, and_false, false_and, not_true_eq_false, not_false_eq_true, true_imp_iff, false_imp_iff, imp_self, or_true, true_or, or_false, false_or, and_self, ite_true, ite_false, if_true, if_false] <;> rfl
theorem testOf_join (d : Nat) (gi : GI) (g : AG) (Q : Option AV → AH → Prop) (live : Int32) (x w : Bool) (o3 : Option AV) : Runs d (m_M_testOf, 31, [some (.inr (.inr (some (12, 0)))), some (.inl live), some (.inl (b32 x)), o3], [.inl (b32 w)]) (gi, g) Q = Runs d (m_M_testOf, 6, [some (.inr (.inr (some (12, 0)))), some (.inl live), some (.inl (b32 (jn true x w))), some (.inl (b32 w))], []) (gi, g) Q := by
  cases x <;> cases w <;> simp only [b_M_testOf_31, b_M_testOf_36, b_M_testOf_40, b_M_testOf_44, b_M_testOf_45, b32_0, b32_1, n32_10, ax_psh_none, ax_psh_some, true_and, and_true, and_false, false_and, not_true_eq_false, not_false_eq_true, true_imp_iff, false_imp_iff, imp_self, or_true, true_or, or_false, false_or, and_self, ite_true, ite_false, if_true, if_false] <;> rfl
theorem bothOf_call (d : Nat) (gi : GI) (g : AG) (Q : Option AV → AH → Prop) (lb x : Bool) (o3 : Option AV) : Runs d (m_M_bothOf, 14, [some (.inr (.inr (some (12, 0)))), some (.inl (b32 lb)), some (.inl (b32 x)), o3], []) (gi, g) Q = Runs d (m_M_bothOf, 28, [some (.inr (.inr (some (12, 0)))), some (.inl (b32 lb)), some (.inl (b32 x)), o3], [.inl (b32 (lb && (x != false))), .inr (.inr (some (12, 0)))]) (gi, g) Q := by
  cases lb <;> cases x <;> simp only [b_M_bothOf_14, b_M_bothOf_19, b_M_bothOf_23, b_M_bothOf_27, b32_0, b32_1, n32_10, ax_psh_none, ax_psh_some, true_and, and_true, and_false, false_and, not_true_eq_false, not_false_eq_true, true_imp_iff, false_imp_iff, imp_self, or_true, true_or, or_false, false_or, and_self, ite_true, ite_false, if_true, if_false] <;> rfl
theorem bothOf_join (d : Nat) (gi : GI) (g : AG) (Q : Option AV → AH → Prop) (live : Int32) (x w : Bool) (o3 : Option AV) : Runs d (m_M_bothOf, 31, [some (.inr (.inr (some (12, 0)))), some (.inl live), some (.inl (b32 x)), o3], [.inl (b32 w)]) (gi, g) Q = Runs d (m_M_bothOf, 6, [some (.inr (.inr (some (12, 0)))), some (.inl live), some (.inl (b32 (jn false x w))), some (.inl (b32 w))], []) (gi, g) Q := by
  cases x <;> cases w <;> simp only [b_M_bothOf_31, b_M_bothOf_36, b_M_bothOf_40, b_M_bothOf_44, b_M_bothOf_45, b32_0, b32_1, n32_10, ax_psh_none, ax_psh_some, true_and, and_true, and_false, false_and, not_true_eq_false, not_false_eq_true, true_imp_iff, false_imp_iff, imp_self, or_true, true_or, or_false, false_or, and_self, ite_true, ite_false, if_true, if_false] <;> rfl
theorem Dead_and {gi : GI} {lb x : Bool} (h : Dead gi (b32 lb)) : Dead gi (b32 (lb && x)) := by
  refine ⟨h.1, b32_d _, ?_⟩
  rcases h.2.2 with z | z
  · cases lb
    · exact Or.inl rfl
    · rw [b32_1, n32_10] at z
      exact z.elim
  · exact Or.inr z
theorem Dead_0 {gi : GI} (h : gi 12 0 21 = n32 0 ∨ gi 12 0 21 = n32 1) : Dead gi (b32 false) := ⟨h, Or.inl rfl, Or.inl rfl⟩
theorem pTLoop_none {c : Nat → Nat} {w kk s : Nat} {sh : Bool} {it : PI Bool} {e : Nat → Int} : ∀ (n a p : Nat) (k : List (Nat × Nat)) (m : (Nat → Int) → Option Bool) (a' p' : Nat) (k' : List (Nat × Nat)) (m' : (Nat → Int) → Option Bool), m e = none → pTLoop c w kk sh it s n a p k m = .inr (a', p', k', m') → m' e = none := by
  intro n
  induction n with
  | zero =>
    intro a p k m a' p' k' m' hm h
    simp only [pTLoop, Sum.inr.injEq, Prod.mk.injEq] at h
    obtain ⟨-, -, -, rfl⟩ := h
    exact hm
  | succ n ih =>
    intro a p k m a' p' k' m' hm h
    by_cases c1 : c a = w
    · match hk : it (a + 1) p (s + k.length + 1) with
      | .inl f =>
        rw [pTLoop_f c1 hk] at h
        exact absurd h (by simp)
      | .inr (a1, p1, kk, mm) =>
        rw [pTLoop_y c1 hk] at h
        exact ih _ _ _ _ _ _ _ _ (by simp only [hm]; rfl) h
    · rw [pTLoop_e c1] at h
      simp only [Sum.inr.injEq, Prod.mk.injEq] at h
      obtain ⟨-, -, -, rfl⟩ := h
      exact hm
theorem ev_test_loop_d {c v : Nat → Nat} {N h : Nat} {it : PI Bool} (hc : ∀ a, N ≤ a → c a = 0) (hib : IB N it) (hi : EvDB c v N it m_M_bothOf h) : ∀ (n d b : Nat) (e : Nat → Int) (gi : GI) (g : AG) (Q : Option AV → AH → Prop) (a p s : Nat) (k : List (Nat × Nat)) (m : (Nat → Int) → Option Bool) (a' p' : Nat) (k' : List (Nat × Nat)) (m' : (Nat → Int) → Option Bool) (lb x : Bool) (o3 : Option AV), h ≤ d + 2 → GOK g → EC gi c v N b e → gi 12 0 19 = n32 (b + a) → a ≤ N → N ≤ a + n → pTLoop c 4 10 true it s n a p k m = .inr (a', p', k', m') → Dead gi (b32 lb) →
    (∀ w gi', Fr evMod gi gi' → gi' 12 0 19 = n32 (b + a') → gi' 12 0 21 = gi 12 0 21 → Q (some (.inl (b32 w))) (gi', g)) →
    Runs (d + 2) (m_M_testOf, 6, [some (.inr (.inr (some (12, 0)))), some (.inl (b32 lb)), some (.inl (b32 x)), o3], []) (gi, g) Q := by
  intro n
  induction n with
  | zero =>
    intro d b e gi g Q a p s k m a' p' k' m' lb x o3 hD hG hE hgo haN hn hk hd hq
    have hN : N ≤ 400 := hE.1
    have h0 := hc a (by omega)
    simp only [pTLoop, Sum.inr.injEq, Prod.mk.injEq] at hk
    obtain ⟨rfl, -⟩ := hk
    rw [b_M_testOf_6]
    simp only [b_M_testOf_11, b_M_testOf_49, c_passes_n _ hG hE (by omega : a ≤ 1000) hgo (x := 4) (by decide) (by rw [h0]; decide), b32_d x, ax_psh_none, ax_psh_some, true_and, and_true, and_false, false_and, not_true_eq_false, not_false_eq_true, true_imp_iff, false_imp_iff, imp_self, or_true, true_or, or_false, false_or, and_self, ite_true, ite_false, if_true, if_false]
    exact hq x gi (Fr_refl _ _) hgo rfl
  | succ n ih =>
    intro d b e gi g Q a p s k m a' p' k' m' lb x o3 hD hG hE hgo haN hn hk hd hq
    have hN : N ≤ 400 := hE.1
    have fr1 : Fr evMod gi (ax_wI gi 12 0 19 (n32 (b + (a + 1)))) := Fr_wI (Fr_refl _ _) rfl
    by_cases h1 : c a = 4
    · have haN1 : a + 1 ≤ N := c_lt hc h1 (by decide)
      match hk1 : it (a + 1) p (s + k.length + 1) with
      | .inl f =>
        rw [pTLoop_f h1 hk1] at hk
        exact absurd hk (by simp)
      | .inr (a1, p1, kk, mm) =>
        rw [pTLoop_y h1 hk1] at hk
        have q1 := hib _ _ _ _ _ _ _ haN1 hk1
        rw [b_M_testOf_6]
        simp only [b_M_testOf_11, c_passes_y _ hG hE (by omega : a ≤ 1000) hgo (x := 4) h1, n32_10, ax_psh_none, ax_psh_some, true_and, and_true, and_false, false_and, not_true_eq_false, not_false_eq_true, true_imp_iff, false_imp_iff, imp_self, or_true, true_or, or_false, false_or, and_self, ite_true, ite_false, if_true, if_false]
        rw [testOf_call, b_M_testOf_28]
        apply hi (d + 2) b e _ g _ (a + 1) p (s + k.length + 1) a1 p1 kk mm _ hD hG (EC_fr hE fr1) (by simp [wI_at]) haN1 hk1 (Dead_and (Dead_eq hd (by simp [wI_at])))
        intro w gi' fr hgo' h21
        have h21' : gi' 12 0 21 = gi 12 0 21 := h21.trans (by simp [wI_at])
        have fr' := Fr_trans fr1 fr
        simp only [ax_psh_none, ax_psh_some, true_and, and_true, and_false, false_and, not_true_eq_false, not_false_eq_true, true_imp_iff, false_imp_iff, imp_self, or_true, true_or, or_false, false_or, and_self, ite_true, ite_false, if_true, if_false]
        rw [testOf_join]
        refine ih d b e gi' g Q a1 p1 s _ _ a' p' k' m' lb _ _ hD hG (EC_fr hE fr') hgo' q1.2 (by omega) hk (Dead_eq hd h21') ?_
        intro w gi'' f1 f2 f3
        exact hq w gi'' (Fr_trans fr' f1) f2 (f3.trans h21')
    · rw [b_M_testOf_6]
      simp only [b_M_testOf_11, b_M_testOf_49, c_passes_n _ hG hE (by omega : a ≤ 1000) hgo (x := 4) (by decide) h1, b32_d x, ax_psh_none, ax_psh_some, true_and, and_true, and_false, false_and, not_true_eq_false, not_false_eq_true, true_imp_iff, false_imp_iff, imp_self, or_true, true_or, or_false, false_or, and_self, ite_true, ite_false, if_true, if_false]
      rw [pTLoop_e h1] at hk
      simp only [Sum.inr.injEq, Prod.mk.injEq] at hk
      obtain ⟨rfl, -⟩ := hk
      exact hq x gi (Fr_refl _ _) hgo rfl
theorem ev_test_d {c v : Nat → Nat} {N h : Nat} {it : PI Bool} (hc : ∀ a, N ≤ a → c a = 0) (hib : IB N it) (hi : EvDB c v N it m_M_bothOf h) (hh : 2 ≤ h) : EvDB c v N (pTSeq c 4 10 true it) m_M_testOf (h + 1) := by
  intro D b e gi g Q a p s a' p' k m lb hD hG hE hgo haN hk hd hq
  obtain ⟨d, rfl⟩ : ∃ d2, D = d2 + 3 := ⟨D - 3, by omega⟩
  have hN : N ≤ 400 := hE.1
  rw [e_M_testOf, b_M_testOf_0]
  match hk1 : it a p s with
  | .inl f =>
    simp only [pTSeq, hk1] at hk
    exact absurd hk (by simp)
  | .inr (a1, p1, kk, mm) =>
    simp only [pTSeq, hk1] at hk
    have q1 := hib _ _ _ _ _ _ _ haN hk1
    apply hi (d + 2) b e gi g _ a p s a1 p1 kk mm lb (by omega) hG hE hgo haN hk1 hd
    intro w gi' fr hgo' h21
    simp only [b_M_testOf_5, ax_psh_none, ax_psh_some, true_and, and_true, and_false, false_and, not_true_eq_false, not_false_eq_true, true_imp_iff, false_imp_iff, imp_self, or_true, true_or, or_false, false_or, and_self, ite_true, ite_false, if_true, if_false]
    refine ev_test_loop_d hc hib hi 400 d b e gi' g Q a1 p1 s kk mm a' p' k m lb w _ (by omega) hG (EC_fr hE fr) hgo' q1.2 (by omega) hk (Dead_eq hd h21) ?_
    intro w gi'' f1 f2 f3
    exact hq w gi'' (Fr_trans fr f1) f2 (f3.trans h21)
theorem ev_test_loop_a {c v : Nat → Nat} {N h : Nat} {it : PI Bool} (hc : ∀ a, N ≤ a → c a = 0) (hib : IB N it) (hid : EvDB c v N it m_M_bothOf h) (hi : EvAB c v N it m_M_bothOf h) : ∀ (n d b : Nat) (e : Nat → Int) (gi : GI) (g : AG) (Q : Option AV → AH → Prop) (a p s : Nat) (k : List (Nat × Nat)) (m : (Nat → Int) → Option Bool) (a' p' : Nat) (k' : List (Nat × Nat)) (m' : (Nat → Int) → Option Bool) (x : Bool) (o3 : Option AV), h ≤ d + 2 → GOK g → EC gi c v N b e → gi 12 0 19 = n32 (b + a) → a ≤ N → N ≤ a + n → pTLoop c 4 10 true it s n a p k m = .inr (a', p', k', m') → m e = some x → gi 12 0 21 = n32 0 →
    (∀ y gi', m' e = some y → Fr evMod gi gi' → gi' 12 0 19 = n32 (b + a') → gi' 12 0 21 = n32 0 → Q (some (.inl (b32 y))) (gi', g)) →
    (∀ w gi', m' e = none → Fr evMod gi gi' → gi' 12 0 19 = n32 (b + a') → gi' 12 0 21 = n32 1 → Q (some (.inl (b32 w))) (gi', g)) →
    Runs (d + 2) (m_M_testOf, 6, [some (.inr (.inr (some (12, 0)))), some (.inl (b32 true)), some (.inl (b32 x)), o3], []) (gi, g) Q := by
  intro n
  induction n with
  | zero =>
    intro d b e gi g Q a p s k m a' p' k' m' x o3 hD hG hE hgo haN hn hk hm h21 hy hno
    have hN : N ≤ 400 := hE.1
    have h0 := hc a (by omega)
    simp only [pTLoop, Sum.inr.injEq, Prod.mk.injEq] at hk
    obtain ⟨rfl, -, -, rfl⟩ := hk
    rw [b_M_testOf_6]
    simp only [b_M_testOf_11, b_M_testOf_49, c_passes_n _ hG hE (by omega : a ≤ 1000) hgo (x := 4) (by decide) (by rw [h0]; decide), b32_d x, ax_psh_none, ax_psh_some, true_and, and_true, and_false, false_and, not_true_eq_false, not_false_eq_true, true_imp_iff, false_imp_iff, imp_self, or_true, true_or, or_false, false_or, and_self, ite_true, ite_false, if_true, if_false]
    exact hy x gi hm (Fr_refl _ _) hgo h21
  | succ n ih =>
    intro d b e gi g Q a p s k m a' p' k' m' x o3 hD hG hE hgo haN hn hk hm h21 hy hno
    have hN : N ≤ 400 := hE.1
    have fr1 : Fr evMod gi (ax_wI gi 12 0 19 (n32 (b + (a + 1)))) := Fr_wI (Fr_refl _ _) rfl
    have h21a : ax_wI gi 12 0 19 (n32 (b + (a + 1))) 12 0 21 = n32 0 := by simp [wI_at, h21]
    by_cases h1 : c a = 4
    · have haN1 : a + 1 ≤ N := c_lt hc h1 (by decide)
      match hk1 : it (a + 1) p (s + k.length + 1) with
      | .inl f =>
        rw [pTLoop_f h1 hk1] at hk
        exact absurd hk (by simp)
      | .inr (a1, p1, kk, mm) =>
        rw [pTLoop_y h1 hk1] at hk
        have q1 := hib _ _ _ _ _ _ _ haN1 hk1
        rw [b_M_testOf_6]
        simp only [b_M_testOf_11, c_passes_y _ hG hE (by omega : a ≤ 1000) hgo (x := 4) h1, n32_10, ax_psh_none, ax_psh_some, true_and, and_true, and_false, false_and, not_true_eq_false, not_false_eq_true, true_imp_iff, false_imp_iff, imp_self, or_true, true_or, or_false, false_or, and_self, ite_true, ite_false, if_true, if_false]
        rw [testOf_call, b_M_testOf_28]
        by_cases hx : x = true
        · rw [show (true && (x != true)) = false by rw [hx]; rfl]
          apply hid (d + 2) b e _ g _ (a + 1) p (s + k.length + 1) a1 p1 kk mm false hD hG (EC_fr hE fr1) (by simp [wI_at]) haN1 hk1 (Dead_0 (Or.inl h21a))
          intro w gi' fr hgo' h21'
          have h21b : gi' 12 0 21 = n32 0 := h21'.trans h21a
          have fr' := Fr_trans fr1 fr
          simp only [ax_psh_none, ax_psh_some, true_and, and_true, and_false, false_and, not_true_eq_false, not_false_eq_true, true_imp_iff, false_imp_iff, imp_self, or_true, true_or, or_false, false_or, and_self, ite_true, ite_false, if_true, if_false]
          rw [testOf_join, show jn true x w = x by subst hx; cases w <;> rfl]
          refine ih d b e gi' g Q a1 p1 s _ _ a' p' k' m' x _ hD hG (EC_fr hE fr') hgo' q1.2 (by omega) hk (by simp only [hm, dec2, hx, if_true]) h21b ?_ ?_
          · intro y gi'' z1 z2 z3 z4
            exact hy y gi'' z1 (Fr_trans fr' z2) z3 z4
          · intro w gi'' z1 z2 z3 z4
            exact hno w gi'' z1 (Fr_trans fr' z2) z3 z4
        · rw [show (true && (x != true)) = true by revert hx; cases x <;> decide]
          apply hi (d + 2) b e _ g _ (a + 1) p (s + k.length + 1) a1 p1 kk mm hD hG (EC_fr hE fr1) (by simp [wI_at]) haN1 hk1 h21a
          · intro y gi' hm' fr hgo' h21'
            have fr' := Fr_trans fr1 fr
            simp only [ax_psh_none, ax_psh_some, true_and, and_true, and_false, false_and, not_true_eq_false, not_false_eq_true, true_imp_iff, false_imp_iff, imp_self, or_true, true_or, or_false, false_or, and_self, ite_true, ite_false, if_true, if_false]
            rw [testOf_join, show jn true x y = y by revert hx; cases x <;> cases y <;> decide]
            refine ih d b e gi' g Q a1 p1 s _ _ a' p' k' m' y _ hD hG (EC_fr hE fr') hgo' q1.2 (by omega) hk (by simp only [hm, dec2, hx, if_false]; exact hm') h21' ?_ ?_
            · intro y gi'' z1 z2 z3 z4
              exact hy y gi'' z1 (Fr_trans fr' z2) z3 z4
            · intro w gi'' z1 z2 z3 z4
              exact hno w gi'' z1 (Fr_trans fr' z2) z3 z4
          · intro w gi' hm' fr hgo' h21'
            have fr' := Fr_trans fr1 fr
            simp only [ax_psh_none, ax_psh_some, true_and, and_true, and_false, false_and, not_true_eq_false, not_false_eq_true, true_imp_iff, false_imp_iff, imp_self, or_true, true_or, or_false, false_or, and_self, ite_true, ite_false, if_true, if_false]
            rw [testOf_join]
            refine ev_test_loop_d hc hib hid n d b e gi' g Q a1 p1 s _ _ a' p' k' m' true _ _ hD hG (EC_fr hE fr') hgo' q1.2 (by omega) hk ⟨Or.inr h21', Or.inr rfl, Or.inr h21'⟩ ?_
            intro w gi'' z2 z3 z4
            exact hno w gi'' (pTLoop_none _ _ _ _ _ _ _ _ _ (by simp only [hm, dec2, hx, if_false]; exact hm') hk) (Fr_trans fr' z2) z3 (z4.trans h21')
    · rw [b_M_testOf_6]
      simp only [b_M_testOf_11, b_M_testOf_49, c_passes_n _ hG hE (by omega : a ≤ 1000) hgo (x := 4) (by decide) h1, b32_d x, ax_psh_none, ax_psh_some, true_and, and_true, and_false, false_and, not_true_eq_false, not_false_eq_true, true_imp_iff, false_imp_iff, imp_self, or_true, true_or, or_false, false_or, and_self, ite_true, ite_false, if_true, if_false]
      rw [pTLoop_e h1] at hk
      simp only [Sum.inr.injEq, Prod.mk.injEq] at hk
      obtain ⟨rfl, -, -, rfl⟩ := hk
      exact hy x gi hm (Fr_refl _ _) hgo h21
theorem ev_test_a {c v : Nat → Nat} {N h : Nat} {it : PI Bool} (hc : ∀ a, N ≤ a → c a = 0) (hib : IB N it) (hid : EvDB c v N it m_M_bothOf h) (hi : EvAB c v N it m_M_bothOf h) (hh : 2 ≤ h) : EvAB c v N (pTSeq c 4 10 true it) m_M_testOf (h + 1) := by
  intro D b e gi g Q a p s a' p' k m hD hG hE hgo haN hk h21 hy hno
  obtain ⟨d, rfl⟩ : ∃ d2, D = d2 + 3 := ⟨D - 3, by omega⟩
  have hN : N ≤ 400 := hE.1
  rw [e_M_testOf, b_M_testOf_0]
  match hk1 : it a p s with
  | .inl f =>
    simp only [pTSeq, hk1] at hk
    exact absurd hk (by simp)
  | .inr (a1, p1, kk, mm) =>
    simp only [pTSeq, hk1] at hk
    have q1 := hib _ _ _ _ _ _ _ haN hk1
    apply hi (d + 2) b e gi g _ a p s a1 p1 kk mm (by omega) hG hE hgo haN hk1 h21
    · intro y gi' hm fr hgo' h21'
      simp only [b_M_testOf_5, ax_psh_none, ax_psh_some, true_and, and_true, and_false, false_and, not_true_eq_false, not_false_eq_true, true_imp_iff, false_imp_iff, imp_self, or_true, true_or, or_false, false_or, and_self, ite_true, ite_false, if_true, if_false]
      refine ev_test_loop_a hc hib hid hi 400 d b e gi' g Q a1 p1 s kk mm a' p' k m y _ (by omega) hG (EC_fr hE fr) hgo' q1.2 (by omega) hk hm h21' ?_ ?_
      · intro y gi'' z1 z2 z3 z4
        exact hy y gi'' z1 (Fr_trans fr z2) z3 z4
      · intro w gi'' z1 z2 z3 z4
        exact hno w gi'' z1 (Fr_trans fr z2) z3 z4
    · intro w gi' hm fr hgo' h21'
      simp only [b_M_testOf_5, ax_psh_none, ax_psh_some, true_and, and_true, and_false, false_and, not_true_eq_false, not_false_eq_true, true_imp_iff, false_imp_iff, imp_self, or_true, true_or, or_false, false_or, and_self, ite_true, ite_false, if_true, if_false]
      refine ev_test_loop_d hc hib hid 400 d b e gi' g Q a1 p1 s kk mm a' p' k m true w _ (by omega) hG (EC_fr hE fr) hgo' q1.2 (by omega) hk ⟨Or.inr h21', Or.inr rfl, Or.inr h21'⟩ ?_
      intro w gi'' z2 z3 z4
      exact hno w gi'' (pTLoop_none _ _ _ _ _ _ _ _ _ hm hk) (Fr_trans fr z2) z3 (z4.trans h21')
theorem ev_both_loop_d {c v : Nat → Nat} {N h : Nat} {it : PI Bool} (hc : ∀ a, N ≤ a → c a = 0) (hib : IB N it) (hi : EvDB c v N it m_M_plainOf h) : ∀ (n d b : Nat) (e : Nat → Int) (gi : GI) (g : AG) (Q : Option AV → AH → Prop) (a p s : Nat) (k : List (Nat × Nat)) (m : (Nat → Int) → Option Bool) (a' p' : Nat) (k' : List (Nat × Nat)) (m' : (Nat → Int) → Option Bool) (lb x : Bool) (o3 : Option AV), h ≤ d + 2 → GOK g → EC gi c v N b e → gi 12 0 19 = n32 (b + a) → a ≤ N → N ≤ a + n → pTLoop c 5 11 false it s n a p k m = .inr (a', p', k', m') → Dead gi (b32 lb) →
    (∀ w gi', Fr evMod gi gi' → gi' 12 0 19 = n32 (b + a') → gi' 12 0 21 = gi 12 0 21 → Q (some (.inl (b32 w))) (gi', g)) →
    Runs (d + 2) (m_M_bothOf, 6, [some (.inr (.inr (some (12, 0)))), some (.inl (b32 lb)), some (.inl (b32 x)), o3], []) (gi, g) Q := by
  intro n
  induction n with
  | zero =>
    intro d b e gi g Q a p s k m a' p' k' m' lb x o3 hD hG hE hgo haN hn hk hd hq
    have hN : N ≤ 400 := hE.1
    have h0 := hc a (by omega)
    simp only [pTLoop, Sum.inr.injEq, Prod.mk.injEq] at hk
    obtain ⟨rfl, -⟩ := hk
    rw [b_M_bothOf_6]
    simp only [b_M_bothOf_11, b_M_bothOf_49, c_passes_n _ hG hE (by omega : a ≤ 1000) hgo (x := 5) (by decide) (by rw [h0]; decide), b32_d x, ax_psh_none, ax_psh_some, true_and, and_true, and_false, false_and, not_true_eq_false, not_false_eq_true, true_imp_iff, false_imp_iff, imp_self, or_true, true_or, or_false, false_or, and_self, ite_true, ite_false, if_true, if_false]
    exact hq x gi (Fr_refl _ _) hgo rfl
  | succ n ih =>
    intro d b e gi g Q a p s k m a' p' k' m' lb x o3 hD hG hE hgo haN hn hk hd hq
    have hN : N ≤ 400 := hE.1
    have fr1 : Fr evMod gi (ax_wI gi 12 0 19 (n32 (b + (a + 1)))) := Fr_wI (Fr_refl _ _) rfl
    by_cases h1 : c a = 5
    · have haN1 : a + 1 ≤ N := c_lt hc h1 (by decide)
      match hk1 : it (a + 1) p (s + k.length + 1) with
      | .inl f =>
        rw [pTLoop_f h1 hk1] at hk
        exact absurd hk (by simp)
      | .inr (a1, p1, kk, mm) =>
        rw [pTLoop_y h1 hk1] at hk
        have q1 := hib _ _ _ _ _ _ _ haN1 hk1
        rw [b_M_bothOf_6]
        simp only [b_M_bothOf_11, c_passes_y _ hG hE (by omega : a ≤ 1000) hgo (x := 5) h1, n32_10, ax_psh_none, ax_psh_some, true_and, and_true, and_false, false_and, not_true_eq_false, not_false_eq_true, true_imp_iff, false_imp_iff, imp_self, or_true, true_or, or_false, false_or, and_self, ite_true, ite_false, if_true, if_false]
        rw [bothOf_call, b_M_bothOf_28]
        apply hi (d + 2) b e _ g _ (a + 1) p (s + k.length + 1) a1 p1 kk mm _ hD hG (EC_fr hE fr1) (by simp [wI_at]) haN1 hk1 (Dead_and (Dead_eq hd (by simp [wI_at])))
        intro w gi' fr hgo' h21
        have h21' : gi' 12 0 21 = gi 12 0 21 := h21.trans (by simp [wI_at])
        have fr' := Fr_trans fr1 fr
        simp only [ax_psh_none, ax_psh_some, true_and, and_true, and_false, false_and, not_true_eq_false, not_false_eq_true, true_imp_iff, false_imp_iff, imp_self, or_true, true_or, or_false, false_or, and_self, ite_true, ite_false, if_true, if_false]
        rw [bothOf_join]
        refine ih d b e gi' g Q a1 p1 s _ _ a' p' k' m' lb _ _ hD hG (EC_fr hE fr') hgo' q1.2 (by omega) hk (Dead_eq hd h21') ?_
        intro w gi'' f1 f2 f3
        exact hq w gi'' (Fr_trans fr' f1) f2 (f3.trans h21')
    · rw [b_M_bothOf_6]
      simp only [b_M_bothOf_11, b_M_bothOf_49, c_passes_n _ hG hE (by omega : a ≤ 1000) hgo (x := 5) (by decide) h1, b32_d x, ax_psh_none, ax_psh_some, true_and, and_true, and_false, false_and, not_true_eq_false, not_false_eq_true, true_imp_iff, false_imp_iff, imp_self, or_true, true_or, or_false, false_or, and_self, ite_true, ite_false, if_true, if_false]
      rw [pTLoop_e h1] at hk
      simp only [Sum.inr.injEq, Prod.mk.injEq] at hk
      obtain ⟨rfl, -⟩ := hk
      exact hq x gi (Fr_refl _ _) hgo rfl
theorem ev_both_d {c v : Nat → Nat} {N h : Nat} {it : PI Bool} (hc : ∀ a, N ≤ a → c a = 0) (hib : IB N it) (hi : EvDB c v N it m_M_plainOf h) (hh : 2 ≤ h) : EvDB c v N (pTSeq c 5 11 false it) m_M_bothOf (h + 1) := by
  intro D b e gi g Q a p s a' p' k m lb hD hG hE hgo haN hk hd hq
  obtain ⟨d, rfl⟩ : ∃ d2, D = d2 + 3 := ⟨D - 3, by omega⟩
  have hN : N ≤ 400 := hE.1
  rw [e_M_bothOf, b_M_bothOf_0]
  match hk1 : it a p s with
  | .inl f =>
    simp only [pTSeq, hk1] at hk
    exact absurd hk (by simp)
  | .inr (a1, p1, kk, mm) =>
    simp only [pTSeq, hk1] at hk
    have q1 := hib _ _ _ _ _ _ _ haN hk1
    apply hi (d + 2) b e gi g _ a p s a1 p1 kk mm lb (by omega) hG hE hgo haN hk1 hd
    intro w gi' fr hgo' h21
    simp only [b_M_bothOf_5, ax_psh_none, ax_psh_some, true_and, and_true, and_false, false_and, not_true_eq_false, not_false_eq_true, true_imp_iff, false_imp_iff, imp_self, or_true, true_or, or_false, false_or, and_self, ite_true, ite_false, if_true, if_false]
    refine ev_both_loop_d hc hib hi 400 d b e gi' g Q a1 p1 s kk mm a' p' k m lb w _ (by omega) hG (EC_fr hE fr) hgo' q1.2 (by omega) hk (Dead_eq hd h21) ?_
    intro w gi'' f1 f2 f3
    exact hq w gi'' (Fr_trans fr f1) f2 (f3.trans h21)
theorem ev_both_loop_a {c v : Nat → Nat} {N h : Nat} {it : PI Bool} (hc : ∀ a, N ≤ a → c a = 0) (hib : IB N it) (hid : EvDB c v N it m_M_plainOf h) (hi : EvAB c v N it m_M_plainOf h) : ∀ (n d b : Nat) (e : Nat → Int) (gi : GI) (g : AG) (Q : Option AV → AH → Prop) (a p s : Nat) (k : List (Nat × Nat)) (m : (Nat → Int) → Option Bool) (a' p' : Nat) (k' : List (Nat × Nat)) (m' : (Nat → Int) → Option Bool) (x : Bool) (o3 : Option AV), h ≤ d + 2 → GOK g → EC gi c v N b e → gi 12 0 19 = n32 (b + a) → a ≤ N → N ≤ a + n → pTLoop c 5 11 false it s n a p k m = .inr (a', p', k', m') → m e = some x → gi 12 0 21 = n32 0 →
    (∀ y gi', m' e = some y → Fr evMod gi gi' → gi' 12 0 19 = n32 (b + a') → gi' 12 0 21 = n32 0 → Q (some (.inl (b32 y))) (gi', g)) →
    (∀ w gi', m' e = none → Fr evMod gi gi' → gi' 12 0 19 = n32 (b + a') → gi' 12 0 21 = n32 1 → Q (some (.inl (b32 w))) (gi', g)) →
    Runs (d + 2) (m_M_bothOf, 6, [some (.inr (.inr (some (12, 0)))), some (.inl (b32 true)), some (.inl (b32 x)), o3], []) (gi, g) Q := by
  intro n
  induction n with
  | zero =>
    intro d b e gi g Q a p s k m a' p' k' m' x o3 hD hG hE hgo haN hn hk hm h21 hy hno
    have hN : N ≤ 400 := hE.1
    have h0 := hc a (by omega)
    simp only [pTLoop, Sum.inr.injEq, Prod.mk.injEq] at hk
    obtain ⟨rfl, -, -, rfl⟩ := hk
    rw [b_M_bothOf_6]
    simp only [b_M_bothOf_11, b_M_bothOf_49, c_passes_n _ hG hE (by omega : a ≤ 1000) hgo (x := 5) (by decide) (by rw [h0]; decide), b32_d x, ax_psh_none, ax_psh_some, true_and, and_true, and_false, false_and, not_true_eq_false, not_false_eq_true, true_imp_iff, false_imp_iff, imp_self, or_true, true_or, or_false, false_or, and_self, ite_true, ite_false, if_true, if_false]
    exact hy x gi hm (Fr_refl _ _) hgo h21
  | succ n ih =>
    intro d b e gi g Q a p s k m a' p' k' m' x o3 hD hG hE hgo haN hn hk hm h21 hy hno
    have hN : N ≤ 400 := hE.1
    have fr1 : Fr evMod gi (ax_wI gi 12 0 19 (n32 (b + (a + 1)))) := Fr_wI (Fr_refl _ _) rfl
    have h21a : ax_wI gi 12 0 19 (n32 (b + (a + 1))) 12 0 21 = n32 0 := by simp [wI_at, h21]
    by_cases h1 : c a = 5
    · have haN1 : a + 1 ≤ N := c_lt hc h1 (by decide)
      match hk1 : it (a + 1) p (s + k.length + 1) with
      | .inl f =>
        rw [pTLoop_f h1 hk1] at hk
        exact absurd hk (by simp)
      | .inr (a1, p1, kk, mm) =>
        rw [pTLoop_y h1 hk1] at hk
        have q1 := hib _ _ _ _ _ _ _ haN1 hk1
        rw [b_M_bothOf_6]
        simp only [b_M_bothOf_11, c_passes_y _ hG hE (by omega : a ≤ 1000) hgo (x := 5) h1, n32_10, ax_psh_none, ax_psh_some, true_and, and_true, and_false, false_and, not_true_eq_false, not_false_eq_true, true_imp_iff, false_imp_iff, imp_self, or_true, true_or, or_false, false_or, and_self, ite_true, ite_false, if_true, if_false]
        rw [bothOf_call, b_M_bothOf_28]
        by_cases hx : x = false
        · rw [show (true && (x != false)) = false by rw [hx]; rfl]
          apply hid (d + 2) b e _ g _ (a + 1) p (s + k.length + 1) a1 p1 kk mm false hD hG (EC_fr hE fr1) (by simp [wI_at]) haN1 hk1 (Dead_0 (Or.inl h21a))
          intro w gi' fr hgo' h21'
          have h21b : gi' 12 0 21 = n32 0 := h21'.trans h21a
          have fr' := Fr_trans fr1 fr
          simp only [ax_psh_none, ax_psh_some, true_and, and_true, and_false, false_and, not_true_eq_false, not_false_eq_true, true_imp_iff, false_imp_iff, imp_self, or_true, true_or, or_false, false_or, and_self, ite_true, ite_false, if_true, if_false]
          rw [bothOf_join, show jn false x w = x by subst hx; cases w <;> rfl]
          refine ih d b e gi' g Q a1 p1 s _ _ a' p' k' m' x _ hD hG (EC_fr hE fr') hgo' q1.2 (by omega) hk (by simp only [hm, dec2, hx, if_true]) h21b ?_ ?_
          · intro y gi'' z1 z2 z3 z4
            exact hy y gi'' z1 (Fr_trans fr' z2) z3 z4
          · intro w gi'' z1 z2 z3 z4
            exact hno w gi'' z1 (Fr_trans fr' z2) z3 z4
        · rw [show (true && (x != false)) = true by revert hx; cases x <;> decide]
          apply hi (d + 2) b e _ g _ (a + 1) p (s + k.length + 1) a1 p1 kk mm hD hG (EC_fr hE fr1) (by simp [wI_at]) haN1 hk1 h21a
          · intro y gi' hm' fr hgo' h21'
            have fr' := Fr_trans fr1 fr
            simp only [ax_psh_none, ax_psh_some, true_and, and_true, and_false, false_and, not_true_eq_false, not_false_eq_true, true_imp_iff, false_imp_iff, imp_self, or_true, true_or, or_false, false_or, and_self, ite_true, ite_false, if_true, if_false]
            rw [bothOf_join, show jn false x y = y by revert hx; cases x <;> cases y <;> decide]
            refine ih d b e gi' g Q a1 p1 s _ _ a' p' k' m' y _ hD hG (EC_fr hE fr') hgo' q1.2 (by omega) hk (by simp only [hm, dec2, hx, if_false]; exact hm') h21' ?_ ?_
            · intro y gi'' z1 z2 z3 z4
              exact hy y gi'' z1 (Fr_trans fr' z2) z3 z4
            · intro w gi'' z1 z2 z3 z4
              exact hno w gi'' z1 (Fr_trans fr' z2) z3 z4
          · intro w gi' hm' fr hgo' h21'
            have fr' := Fr_trans fr1 fr
            simp only [ax_psh_none, ax_psh_some, true_and, and_true, and_false, false_and, not_true_eq_false, not_false_eq_true, true_imp_iff, false_imp_iff, imp_self, or_true, true_or, or_false, false_or, and_self, ite_true, ite_false, if_true, if_false]
            rw [bothOf_join]
            refine ev_both_loop_d hc hib hid n d b e gi' g Q a1 p1 s _ _ a' p' k' m' true _ _ hD hG (EC_fr hE fr') hgo' q1.2 (by omega) hk ⟨Or.inr h21', Or.inr rfl, Or.inr h21'⟩ ?_
            intro w gi'' z2 z3 z4
            exact hno w gi'' (pTLoop_none _ _ _ _ _ _ _ _ _ (by simp only [hm, dec2, hx, if_false]; exact hm') hk) (Fr_trans fr' z2) z3 (z4.trans h21')
    · rw [b_M_bothOf_6]
      simp only [b_M_bothOf_11, b_M_bothOf_49, c_passes_n _ hG hE (by omega : a ≤ 1000) hgo (x := 5) (by decide) h1, b32_d x, ax_psh_none, ax_psh_some, true_and, and_true, and_false, false_and, not_true_eq_false, not_false_eq_true, true_imp_iff, false_imp_iff, imp_self, or_true, true_or, or_false, false_or, and_self, ite_true, ite_false, if_true, if_false]
      rw [pTLoop_e h1] at hk
      simp only [Sum.inr.injEq, Prod.mk.injEq] at hk
      obtain ⟨rfl, -, -, rfl⟩ := hk
      exact hy x gi hm (Fr_refl _ _) hgo h21
theorem ev_both_a {c v : Nat → Nat} {N h : Nat} {it : PI Bool} (hc : ∀ a, N ≤ a → c a = 0) (hib : IB N it) (hid : EvDB c v N it m_M_plainOf h) (hi : EvAB c v N it m_M_plainOf h) (hh : 2 ≤ h) : EvAB c v N (pTSeq c 5 11 false it) m_M_bothOf (h + 1) := by
  intro D b e gi g Q a p s a' p' k m hD hG hE hgo haN hk h21 hy hno
  obtain ⟨d, rfl⟩ : ∃ d2, D = d2 + 3 := ⟨D - 3, by omega⟩
  have hN : N ≤ 400 := hE.1
  rw [e_M_bothOf, b_M_bothOf_0]
  match hk1 : it a p s with
  | .inl f =>
    simp only [pTSeq, hk1] at hk
    exact absurd hk (by simp)
  | .inr (a1, p1, kk, mm) =>
    simp only [pTSeq, hk1] at hk
    have q1 := hib _ _ _ _ _ _ _ haN hk1
    apply hi (d + 2) b e gi g _ a p s a1 p1 kk mm (by omega) hG hE hgo haN hk1 h21
    · intro y gi' hm fr hgo' h21'
      simp only [b_M_bothOf_5, ax_psh_none, ax_psh_some, true_and, and_true, and_false, false_and, not_true_eq_false, not_false_eq_true, true_imp_iff, false_imp_iff, imp_self, or_true, true_or, or_false, false_or, and_self, ite_true, ite_false, if_true, if_false]
      refine ev_both_loop_a hc hib hid hi 400 d b e gi' g Q a1 p1 s kk mm a' p' k m y _ (by omega) hG (EC_fr hE fr) hgo' q1.2 (by omega) hk hm h21' ?_ ?_
      · intro y gi'' z1 z2 z3 z4
        exact hy y gi'' z1 (Fr_trans fr z2) z3 z4
      · intro w gi'' z1 z2 z3 z4
        exact hno w gi'' z1 (Fr_trans fr z2) z3 z4
    · intro w gi' hm fr hgo' h21'
      simp only [b_M_bothOf_5, ax_psh_none, ax_psh_some, true_and, and_true, and_false, false_and, not_true_eq_false, not_false_eq_true, true_imp_iff, false_imp_iff, imp_self, or_true, true_or, or_false, false_or, and_self, ite_true, ite_false, if_true, if_false]
      refine ev_both_loop_d hc hib hid 400 d b e gi' g Q a1 p1 s kk mm a' p' k m true w _ (by omega) hG (EC_fr hE fr) hgo' q1.2 (by omega) hk ⟨Or.inr h21', Or.inr rfl, Or.inr h21'⟩ ?_
      intro w gi'' z2 z3 z4
      exact hno w gi'' (pTLoop_none _ _ _ _ _ _ _ _ _ hm hk) (Fr_trans fr z2) z3 (z4.trans h21')
