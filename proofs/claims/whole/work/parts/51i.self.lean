/-! the class's constructor: papers -/
def PpR (g : AG) (n : Nat) : Prop := (∀ t, t < n → g.1 3 t 5 = some (54, t) ∧ g.1 3 t 6 = some (55, t) ∧ g.1 3 t 7 = some (56, t) ∧ g.1 3 t 8 = some (57, t) ∧ g.1 3 t 9 = some (58, t)) ∧ (∀ t j, t < n → j < 8 → g.1 58 t j = some (59, 8 * t + j)) ∧ ∀ j, j < n → g.1 25 0 j = some (3, j)
def LPp (F : Nat → Nat → Nat → AR) (giX : GI) (gX : AG) (i : Nat) (gi1 : GI) (g1 : AG) : Prop := ST F giX gX 25 0 gi1 g1 ∧ (∀ t, ¬ (t = 3 ∨ (54 ≤ t ∧ t ≤ 59)) → g1.2.1 t = gX.2.1 t) ∧ g1.2.1 3 = i ∧ (∀ t, 54 ≤ t → t ≤ 58 → g1.2.1 t = i) ∧ g1.2.1 59 = 8 * i ∧ PpR g1 i ∧ g1.2.2.2.1 ≤ gX.2.2.2.1 + 14 * i ∧ g1.2.2.2.2 ≤ gX.2.2.2.2 + 620 * i
theorem n_papers {d : Nat} {F : Nat → Nat → Nat → AR} {gi : GI} {g : AG} {Q : Option AV → AH → Prop} (hb : LPp F gi g 0 gi g) (h25 : g.2.1 25 = 1) (h0 : 0 < g.2.1 0) (p12 : g.1 0 0 12 = some (25, 0))
    (hq : ∀ (gi' : GI) (g' : AG), LPp F gi g 6 gi' g' → Q none (gi', g')) :
    Runs (d + 3) (m_S_init, 154, [some (.inr (.inr (some (0, 0)))), some (.inl (n32 0))], []) (gi, g) Q := by
  refine loop_up (n := 6) (P := fun i => ∀ (gi1 : GI) (g1 : AG), LPp F gi g i gi1 g1 → Runs (d + 3) (m_S_init, 154, [some (.inr (.inr (some (0, 0)))), some (.inl (n32 i))], []) (gi1, g1) Q) ?_ ?_ 0 (Nat.zero_le _) gi g hb
  · intro i hi ih gi1 g1 hb
    obtain ⟨s1, k1, e3, e54, e59, ⟨hf, hrow, h25r⟩, ha, hl⟩ := hb
    have m25 : g1.2.1 25 = 1 := by rw [k1 25 (by omega), h25]
    have z25 : 0 < g1.2.1 25 := by omega
    rw [b_S_init_154]
    refine ⟨fun _ => ?_, fun z => absurd (by rw [n32_lt (by omega) (by omega)]; exact hi) z⟩
    rw [b_S_init_160]
    refine ⟨((s1.1 0 0 12 h0 (by omega)).2).trans p12, ?_⟩
    refine K_new (K := fun h => Runs _ _ h _) (ST_refl (c := 25) (w := 0) s1.2.1 s1.2.2.1) z25 (fun gi2 g2 s2 c2 i2 r2 o2 a2 l2 => ?_)
    rw [b_S_init_168, e3]
    have v : ∀ t, 54 ≤ t → t ≤ 59 → g2.2.1 t = g1.2.1 t := fun t q1 q2 => by rw [c2 t, if_neg (by omega)]
    refine n_Paper (F := F) s2.2.1 s2.2.2.1 (by rw [c2 3, if_pos rfl]; omega) (fun gi3 g3 s3' k3 k58 k59 f5 f6 f7 f8 f9 hr3 a3 l3 => ?_)
    have s3 : ST F gi1 g1 25 0 gi3 g3 := ST_sub s2 s3' (by omega)
    rw [v 54 (by omega) (by omega), e54 54 (by omega) (by omega)] at f5
    rw [v 55 (by omega) (by omega), e54 55 (by omega) (by omega)] at f6
    rw [v 56 (by omega) (by omega), e54 56 (by omega) (by omega)] at f7
    rw [v 57 (by omega) (by omega), e54 57 (by omega) (by omega)] at f8
    rw [v 58 (by omega) (by omega), e54 58 (by omega) (by omega)] at f9 hr3
    rw [v 59 (by omega) (by omega), e59] at hr3 k59
    rw [ax_psh_none, b_S_init_172, n32_clamp (by omega), n32_add]
    refine ⟨⟨n32_in (by omega) (by omega), Or.inr ⟨_, rfl⟩⟩, ?_⟩
    refine ih gi3 _ ⟨ST_trans s1 (ST_wR s3 z25), fun t ht => ?_, ?_, fun t q1 q2 => ?_, ?_, ⟨fun t ht => ?_, fun t j ht hj => ?_, fun j hj => ?_⟩, ?_, ?_⟩
    · show g3.2.1 t = _
      rw [k3 t (by omega), c2 t, if_neg (by omega), k1 t (by omega)]
    · show g3.2.1 3 = _
      rw [k3 3 (by omega), c2 3, if_pos rfl, e3]
    · show g3.2.1 t = _
      rw [k58 t q1 q2, v t q1 (by omega), e54 t q1 q2]
    · show g3.2.1 59 = _
      omega
    · show ax_wR g3.1 25 0 i (some (3, i)) 3 t 5 = _ ∧ ax_wR g3.1 25 0 i (some (3, i)) 3 t 6 = _ ∧ ax_wR g3.1 25 0 i (some (3, i)) 3 t 7 = _ ∧ ax_wR g3.1 25 0 i (some (3, i)) 3 t 8 = _ ∧ ax_wR g3.1 25 0 i (some (3, i)) 3 t 9 = _
      rw [wR_at, if_neg (by omega), wR_at, if_neg (by omega), wR_at, if_neg (by omega), wR_at, if_neg (by omega), wR_at, if_neg (by omega)]
      by_cases q : t = i
      · rw [q]
        exact ⟨f5, f6, f7, f8, f9⟩
      · rw [(s3.1 3 t 5 (by omega) (by omega)).2, (s3.1 3 t 6 (by omega) (by omega)).2, (s3.1 3 t 7 (by omega) (by omega)).2, (s3.1 3 t 8 (by omega) (by omega)).2, (s3.1 3 t 9 (by omega) (by omega)).2]
        exact hf t (by omega)
    · show ax_wR g3.1 25 0 i (some (3, i)) 58 t j = _
      rw [wR_at, if_neg (by omega)]
      have c58 := e54 58 (by omega) (by omega)
      by_cases q : t = i
      · rw [q]
        exact hr3 j hj
      · rw [(s3.1 58 t j (by omega) (by omega)).2]
        exact hrow t j (by omega) hj
    · show ax_wR g3.1 25 0 i (some (3, i)) 25 0 j = _
      rw [wR_at]
      by_cases q : j = i
      · rw [if_pos ⟨rfl, rfl, q⟩, q]
      · rw [if_neg (by omega)]
        have e2' := (o2 25 0 j z25).2
        have e3' := (s3'.1 25 0 j (by rw [c2 25, if_neg (by omega)]; exact z25) (by omega)).2
        rw [e3', e2']
        exact h25r j (by omega)
    · show g3.2.2.2.1 ≤ _
      omega
    · show g3.2.2.2.2 ≤ _
      omega
  · intro gi1 g1 hb
    rw [b_S_init_154]
    refine ⟨fun z => absurd z (by rw [n32_lt (by omega) (by omega)]; omega), fun _ => ?_⟩
    rw [b_S_init_179]
    exact hq gi1 g1 hb
