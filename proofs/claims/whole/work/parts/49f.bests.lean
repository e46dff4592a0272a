/-! the reference: the next row; all of them; the best -/
theorem n32_lt0m {n : Nat} (h : n ≤ 1) : n32 n - n32 2 < n32 0 := by
  have : n = 0 ∨ n = 1 := by omega
  rcases this with rfl | rfl <;> decide
theorem rv_m {d n : Nat} {g : AG} {Q : Option AV → AH → Prop} (hG : GOK g) (hn : n ≤ 6) : ∀ (k : Nat) (f : FF) (gi : GI) (a b : Nat) (o1 o2 : Option AV), b < n → b - a ≤ k → a ≤ n → R81 gi f n →
    (∀ gi', (∀ s x j, s ≠ 81 → gi' s x j = gi s x j) → R81 gi' (rvF f k a b) n → Q (some (.inl (n32 1))) (gi', g)) →
    Runs (d + 1) (m_M_nextRow, 86, [some (.inr (.inr (some (12, 0)))), o1, o2, some (.inl (n32 a)), some (.inl (n32 b))], []) (gi, g) Q := by
  intro k
  induction k with
  | zero =>
    intro f gi a b o1 o2 hb hk ha hR hq
    rw [b_M_nextRow_86]
    refine ⟨fun z => absurd z (by rw [n32_lt (by omega) (by omega)]; omega), fun _ => ?_⟩
    rw [b_M_nextRow_108]
    exact ⟨Or.inr rfl, hq gi (fun _ _ _ _ => rfl) hR⟩
  | succ k ih =>
    intro f gi a b o1 o2 hb hk ha hR hq
    have er : rvF f (k + 1) a b = if a < b then rvF (swF f a b) k (a + 1) (b - 1) else f := rfl
    rw [er] at hq
    rw [b_M_nextRow_86]
    refine ⟨fun z => ?_, fun z => ?_⟩
    · rw [n32_lt (by omega) (by omega)] at z
      rw [if_pos z] at hq
      rw [b_M_nextRow_92]
      refine c_M_swaps (d := d) hG hn (by omega) hb hR (fun gi1 f1 hR1 => ?_)
      obtain ⟨b', rfl⟩ : ∃ b', b = b' + 1 := ⟨b - 1, by omega⟩
      rw [ax_psh_none, b_M_nextRow_99, n32_add, n32_dec]
      exact ih _ gi1 _ _ _ _ (by omega) (by omega) (by omega) hR1 (fun gi' f2 hR2 => hq gi' (fun s x j q => (f2 s x j q).trans (f1 s x j q)) hR2)
    · rw [n32_lt (by omega) (by omega)] at z
      rw [if_neg z] at hq
      rw [b_M_nextRow_108]
      exact ⟨Or.inr rfl, hq gi (fun _ _ _ _ => rfl) hR⟩
theorem c_M_nextRow {d n : Nat} {f : FF} {gi : GI} {g : AG} {Q : Option AV → AH → Prop} (hG : GOK g) (hn : n ≤ 6) (h42 : gi 12 0 42 = n32 n) (hR : R81 gi f n) (hq0 : nxF f n = none → Q (some (.inl (n32 0))) (gi, g)) (hq1 : ∀ f' gi', nxF f n = some f' → (∀ s x j, s ≠ 81 → gi' s x j = gi s x j) → R81 gi' f' n → Q (some (.inl (n32 1))) (gi', g)) :
    ax_call (d + 2) m_M_nextRow [.inr (.inr (some (12, 0)))] (gi, g) Q := by
  -- the one to swap with
  have fm : ∀ (k m : Nat) (o3 o4 : Option AV), k + 1 ≤ m → m < n → fkN f (n - 1) = some k → fmN f k (n - 1) = fmN f k m → ¬ f (k + 1) < f k → Runs (d + 1) (m_M_nextRow, 47, [some (.inr (.inr (some (12, 0)))), some (.inl (n32 k)), some (.inl (n32 m)), o3, o4], []) (gi, g) Q := by
    intro k m
    induction m with
    | zero =>
      intro o3 o4 h1
      omega
    | succ m ih =>
      intro o3 o4 h1 h2 h3 h4 h5
      have a1 := hR (m + 1) h2
      have a2 := hR k (by omega)
      have em : fmN f k (m + 1) = if f (m + 1) < f k then fmN f k m else m + 1 := rfl
      rw [em] at h4
      rw [b_M_nextRow_47, n32_clamp (by omega), n32_clamp (by omega), a1.1, a2.1]
      refine ⟨G_12_40 hG 0, n32_in (by omega) (by omega), G_12_40 hG 0, n32_in (by omega) (by omega), fun z => ?_, fun z => ?_⟩
      · rw [n32_lt (by omega) (by omega)] at z
        rw [if_pos z] at h4
        have hne : m ≠ k := fun e => h5 (by rw [e] at z; exact z)
        rw [b_M_nextRow_62, n32_dec]
        exact ih _ _ (by omega) (by omega) h3 h4 h5
      · rw [n32_lt (by omega) (by omega)] at z
        rw [if_neg z] at h4
        rw [b_M_nextRow_68]
        refine c_M_swaps (d := d) hG hn (by omega) h2 hR (fun gi1 f1 hR1 => ?_)
        have e42 : gi1 12 0 42 = n32 n := (f1 12 0 42 (by decide)).trans h42
        rw [ax_psh_none, b_M_nextRow_74, e42, n32_add, n32_sub (by omega)]
        refine rv_m hG hn 6 _ gi1 _ _ _ _ (by omega) (by omega) (by omega) hR1 (fun gi' f2 hR2 => ?_)
        refine hq1 _ gi' ?_ (fun s x j q => (f2 s x j q).trans (f1 s x j q)) hR2
        show (match fkN f (n - 1) with
          | none => none
          | some k => some (rvF (swF f k (fmN f k (n - 1))) 6 (k + 1) (n - 1))) = _
        rw [h3]
        show some (rvF (swF f k (fmN f k (n - 1))) 6 (k + 1) (n - 1)) = _
        rw [h4]
  -- the last that rises
  have fk : ∀ (k : Nat) (x : Int32) (o2 o3 o4 : Option AV), k + 1 ≤ n ∨ k = 0 → (k = 0 → x < n32 0) → (∀ k', k = k' + 1 → x = n32 k') → fkN f (n - 1) = fkN f k → Runs (d + 1) (m_M_nextRow, 7, [some (.inr (.inr (some (12, 0)))), some (.inl x), o2, o3, o4], []) (gi, g) Q := by
    intro k
    induction k with
    | zero =>
      intro x o2 o3 o4 _ h1 _ h3
      rw [b_M_nextRow_7]
      refine ⟨fun z => ?_, fun z => absurd (h1 rfl) z⟩
      rw [b_M_nextRow_34]
      refine ⟨fun _ => ?_, fun q => absurd z q⟩
      rw [b_M_nextRow_38]
      refine ⟨Or.inl rfl, hq0 ?_⟩
      show (match fkN f (n - 1) with
          | none => none
          | some k => some (rvF (swF f k (fmN f k (n - 1))) 6 (k + 1) (n - 1))) = _
      rw [h3]
      rfl
    | succ k ih =>
      intro x o2 o3 o4 h0 _ h2 h3
      have hx := h2 k rfl
      subst hx
      have a1 := hR (k + 1) (by omega)
      have a2 := hR k (by omega)
      have ek : fkN f (k + 1) = if f (k + 1) < f k then fkN f k else some k := rfl
      rw [ek] at h3
      rw [b_M_nextRow_7]
      refine ⟨fun z => absurd z (by rw [n32_lt (by omega) (by omega)]; omega), fun _ => ?_⟩
      rw [b_M_nextRow_11, n32_add, n32_clamp (by omega), n32_clamp (by omega), a1.1, a2.1]
      refine ⟨G_12_40 hG 0, n32_in (by omega) (by omega), G_12_40 hG 0, n32_in (by omega) (by omega), fun z => ?_, fun z => ?_⟩
      · rw [n32_lt (by omega) (by omega)] at z
        rw [if_pos z] at h3
        rw [b_M_nextRow_28]
        refine ih _ _ _ _ (by omega) (fun e => ?_) (fun k' e => ?_) h3
        · rw [e]
          decide
        · rw [e, n32_dec]
      · rw [n32_lt (by omega) (by omega)] at z
        rw [if_neg z] at h3
        rw [b_M_nextRow_34]
        refine ⟨fun q => absurd q (by rw [n32_lt (by omega) (by omega)]; omega), fun _ => ?_⟩
        rw [b_M_nextRow_40, h42, n32_sub (by omega)]
        exact fm k (n - 1) _ _ (by omega) (by omega) h3 rfl z
  rw [e_M_nextRow, b_M_nextRow_0, h42]
  refine fk (n - 1) _ _ _ _ (by omega) (fun e => n32_lt0m (by omega)) (fun k' e => ?_) rfl
  rw [n32_sub (by omega), show n - 2 = k' by omega]
theorem nodup_sum : ∀ (l : List Nat) (n : Nat), l.Nodup → (∀ x, x ∈ l → x < n) → l.length = sumN (fun t => if t ∈ l then 1 else 0) n := by
  intro l
  induction l with
  | nil =>
    intro n _ _
    exact (sumN_zero.mpr (fun i _ => by simp)).symm
  | cons a l ih =>
    intro n hn hx
    have hn' := List.nodup_cons.mp hn
    have ha := hx a List.mem_cons_self
    have h1 := sumN_one (f := fun t => if t ∈ l then 1 else 0) (g := fun t => if t ∈ a :: l then 1 else 0) ha (fun k _ hk => by
      simp only [List.mem_cons]
      by_cases q : k ∈ l
      · rw [if_pos (Or.inr q), if_pos q]
      · rw [if_neg (by rintro (z | z); exact hk z; exact q z), if_neg q])
    have h2 := ih n hn'.2 (fun x hx' => hx x (List.mem_cons_of_mem _ hx'))
    simp only [if_neg hn'.1, if_pos (List.mem_cons_self)] at h1
    rw [List.length_cons]
    omega
theorem sbF_len (S : Nat → Bool) : ∀ n, (sbF S n).length = sumN (fun t => if S t = true then 1 else 0) n
  | 0 => rfl
  | n + 1 => by
    rw [sumN_succ, ← sbF_len S n]
    show (if S n = true then sbF S n ++ [n] else sbF S n).length = _
    split
    · rw [List.length_append]
      rfl
    · rfl
theorem inK_ge {K : Nat → Int32} {nt : Nat} (n6 : nt ≤ 6) : ∀ t, 6 ≤ t → inK K nt t = false := fun t ht => decide_eq_false (fun q => by
  have := (thK_mem q).1
  omega)
theorem sb_nK {K : Nat → Int32} {nt : Nat} (n6 : nt ≤ 6) : (sbF (inK K nt) 6).length = nK K nt := by
  rw [sbF_len]
  unfold nK
  rw [nodup_sum (thK K nt 10) 6 (thK_nodup (Nat.le_refl 10)) (fun x hx => by have := (thK_mem hx).1; omega)]
  refine sumN_congr (fun i _ => ?_)
  unfold inK
  simp only [decide_eq_true_eq]
/-- the rows begin with the sorted one and follow each other -/
theorem rowsK {K : Nat → Int32} {nt : Nat} (n6 : nt ≤ 6) : chain (nK K nt) (prm (nK K nt) (inK K nt)) = true ∧ (∃ l, prm (nK K nt) (inK K nt) = sbF (inK K nt) 6 :: l) ∧ rowL (srO (gt (thK K nt 10)) (nK K nt) (nK K nt)) (nK K nt) = sbF (inK K nt) 6 := by
  have h := rows_at (inK_ge (K := K) n6)
  unfold chkS at h
  rw [sb_nK n6, Bool.and_eq_true, Bool.and_eq_true] at h
  obtain ⟨⟨h1, h2⟩, h3⟩ := h
  refine ⟨h1, ?_, ?_⟩
  · cases hp : prm (nK K nt) (inK K nt) with
    | nil =>
      rw [hp] at h2
      exact absurd h2 (by simp)
    | cons r l =>
      rw [hp] at h2
      exact ⟨l, by rw [eqL_eq h2]⟩
  · have hm : thK K nt 10 ∈ prm (nK K nt) (inK K nt) := prm_of (thK K nt 10) (inK K nt) (thK_nodup (Nat.le_refl 10)) (fun x hx => ⟨by have := (thK_mem hx).1; omega, decide_eq_true hx⟩)
    have h4 := allL_mem (p := fun r => eqL (rowL (srO (gt r) (nK K nt) (nK K nt)) (nK K nt)) (sbF (inK K nt) 6)) h3 hm
    exact eqL_eq h4
def BM (gi : GI) (n : Nat) (x : BS) : Prop := gi 12 0 45 = n32 x.1 ∧ (0 < x.1 → gi 12 0 44 = n32 x.2.1) ∧ (0 < x.1 → ∀ u, u < n → gi 83 0 u = n32 (gt x.2.2 u))
