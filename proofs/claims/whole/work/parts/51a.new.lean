/-! what the constructors leave -/
theorem zI_id {f : GI} {s a n : Nat} (h : ∀ j, j < n → f s a j = 0) : ax_zI f s a n = f := by
  funext s' a' j'
  unfold ax_zI
  by_cases q : s' = s ∧ a' = a ∧ j' < n
  · rw [if_pos q, q.1, q.2.1, h j' q.2.2]
  · rw [if_neg q]
theorem zR_id {f : Nat → Nat → Nat → AR} {s a n : Nat} (h : ∀ j, j < n → f s a j = none) : ax_zR f s a n = f := by
  funext s' a' j'
  unfold ax_zR
  by_cases q : s' = s ∧ a' = a ∧ j' < n
  · rw [if_pos q, q.1, q.2.1, h j' q.2.2]
  · rw [if_neg q]
theorem new_eq {gi : GI} {g : AG} {s n : Nat} (hI : ∀ j, j < n → gi s (g.2.1 s) j = 0) (hR : ∀ j, j < n → g.1 s (g.2.1 s) j = none) : ax_new (gi, g) s n = (gi, g.1, ax_wN g.2.1 s (g.2.1 s + 1), ax_wL g.2.2.1 s (g.2.1 s) n, g.2.2.2.1 + 1, g.2.2.2.2 + n) := by
  unfold ax_new
  dsimp only
  rw [zI_id hI, zR_id hR]
theorem new_eqI {gi : GI} {g : AG} {s n : Nat} (hI : ∀ j, j < n → gi s (g.2.1 s) j = 0) : ax_new (gi, g) s n = (gi, ax_zR g.1 s (g.2.1 s) n, ax_wN g.2.1 s (g.2.1 s + 1), ax_wL g.2.2.1 s (g.2.1 s) n, g.2.2.2.1 + 1, g.2.2.2.2 + n) := by
  unfold ax_new
  dsimp only
  rw [zI_id hI]
theorem wR_ne {f : Nat → Nat → Nat → AR} {s s' : Nat} (h : s' ≠ s) (a j : Nat) (v : AR) (a' j' : Nat) : ax_wR f s a j v s' a' j' = f s' a' j' := by
  unfold ax_wR
  rw [if_neg (fun q => h q.1)]
theorem wN_ne {f : Nat → Nat} {s s' : Nat} (h : s' ≠ s) (n : Nat) : ax_wN f s n s' = f s' := by
  unfold ax_wN
  rw [if_neg h]
theorem wN_self (f : Nat → Nat) (s n : Nat) : ax_wN f s n s = n := by
  unfold ax_wN
  rw [if_pos rfl]
theorem nn (k : Nat) (h : k < 2147483648) : ¬ n32 k < n32 0 ∧ (n32 k).toNatClampNeg = k := ⟨by rw [n32_neg h]; exact id, n32_clamp h⟩
/-- a thing -/
theorem n_Thing {d w : Nat} {gi : GI} {g : AG} {Q : Option AV → AH → Prop} (c29 : g.2.1 29 = w) (c30 : g.2.1 30 = w) (i29 : ∀ a j, gi 29 a j = 0) (i30 : ∀ a j, gi 30 a j = 0) (r29 : ∀ a j, g.1 29 a j = none) (r30 : ∀ a j, g.1 30 a j = none)
    (hq : ∀ gi' (g' : AG), (∀ s a j, s ≠ 2 → gi' s a j = gi s a j) → (∀ a j, a ≠ w → gi' 2 a j = gi 2 a j) → g'.1 = ax_wR (ax_wR g.1 2 w 4 (some (29, w))) 2 w 5 (some (30, w)) → (∀ s, g'.2.1 s = if s = 29 ∨ s = 30 then w + 1 else g.2.1 s) → g'.2.2.2.1 = g.2.2.2.1 + 2 → g'.2.2.2.2 = g.2.2.2.2 + 128 → Q none (gi', g')) :
    ax_call (d + 1) m_Thing_init [.inr (.inr (some (2, w)))] (gi, g) Q := by
  rw [e_Thing_init, b_Thing_init_0]
  refine ⟨nn 64 (by omega), ?_⟩
  have f0 : ∀ s a j, ¬ (s = 2 ∧ a = w) → ax_wI (ax_wI (ax_wI (ax_wI gi 2 w 0 (n32 1)) 2 w 1 (n32 1)) 2 w 2 (n32 0)) 2 w 3 (-1) s a j = gi s a j := fun s a j q => by rw [wI_at, if_neg (by omega), wI_at, if_neg (by omega), wI_at, if_neg (by omega), wI_at, if_neg (by omega)]
  generalize ax_wI (ax_wI (ax_wI (ax_wI gi 2 w 0 (n32 1)) 2 w 1 (n32 1)) 2 w 2 (n32 0)) 2 w 3 (-1) = gi1 at *
  rw [new_eq (fun j _ => by rw [f0 29 _ j (by omega)]; exact i29 _ j) (fun j _ => r29 _ j), b_Thing_init_29]
  refine ⟨nn 64 (by omega), ?_⟩
  rw [new_eq (fun j _ => by rw [f0 30 _ j (by omega)]; exact i30 _ j) (fun j _ => by
    show ax_wR g.1 2 w 4 _ 30 _ j = none
    rw [wR_ne (by decide)]
    exact r30 _ j), b_Thing_init_37]
  refine hq gi1 _ (fun s a j q => f0 s a j (by omega)) (fun a j q => f0 2 a j (by omega)) ?_ (fun s => ?_) rfl rfl
  · show ax_wR (ax_wR g.1 2 w 4 (some (29, g.2.1 29))) 2 w 5 (some (30, ax_wN g.2.1 29 (g.2.1 29 + 1) 30)) = _
    rw [wN_ne (by decide), c29, c30]
  · show ax_wN (ax_wN g.2.1 29 (g.2.1 29 + 1)) 30 (ax_wN g.2.1 29 (g.2.1 29 + 1) 30 + 1) s = _
    rw [wN_ne (show (30 : Nat) ≠ 29 by decide), c29, c30]
    unfold ax_wN
    by_cases q1 : s = 30
    · rw [if_pos q1, if_pos (Or.inr q1)]
    · rw [if_neg q1]
      by_cases q2 : s = 29
      · rw [if_pos q2, if_pos (Or.inl q2)]
      · rw [if_neg q2, if_neg (by omega)]
