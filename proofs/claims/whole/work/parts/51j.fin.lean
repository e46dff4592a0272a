/-! both made: what holds at the start -/
theorem wl_low : ∀ s, s < 100 → wl_gn s = 0 := by decide +kernel
theorem RU0 (fo : AR) (L : Nat) : RU wl_ff (wl_gr fo, wl_gn, wl_gl L, 0, 0) := by
  refine ⟨fun s a j hs _ => ?_, fun a j => ⟨rfl, rfl⟩⟩
  have h1 : Nat.beq s 101 = false := Bool.eq_false_iff.mpr (fun q => by
    have := Nat.eq_of_beq_eq_true q
    have e : 101 = 101 := rfl
    omega)
  have h2 : Nat.beq s 104 = false := Bool.eq_false_iff.mpr (fun q => by
    have := Nat.eq_of_beq_eq_true q
    have e : 104 = 104 := rfl
    omega)
  show wl_gr fo s a j = _
  unfold wl_gr
  rw [h1, h2]
  rfl
theorem ZS0 (xs : Nat → Int32) : ZS (wl_gi xs) := by
  intro s a j hs _
  have hk : ∀ k, 100 ≤ k → Nat.beq s k = false := fun k hk => Bool.eq_false_iff.mpr (fun q => by
    have := Nat.eq_of_beq_eq_true q
    omega)
  unfold wl_gi
  rw [hk 100 (by decide), hk 103 (by decide), hk 102 (by decide)]
  rfl
theorem gk1 {g : AG} {s j t : Nat} (hU : RU wl_ff g) (hs : s < 100) (hc : g.2.1 s ≤ 1) (h : g.1 s 0 j = some (t, 0)) (hF : ∀ a, wl_ff s a j = some (t, a)) : ∀ a, g.1 s a j = some (t, a) := fun a => by
  by_cases q : a = 0
  · rw [q, h]
  · rw [hU.1 s a j hs (Or.inl (by omega)), hF]
theorem gkn {g : AG} {s j t n : Nat} (hU : RU wl_ff g) (hs : s < 100) (hc : g.2.1 s ≤ n) (h : ∀ a, a < n → g.1 s a j = some (t, a)) (hF : ∀ a, wl_ff s a j = some (t, a)) : ∀ a, g.1 s a j = some (t, a) := fun a => by
  by_cases q : a < n
  · exact h a q
  · rw [hU.1 s a j hs (Or.inl (by omega)), hF]
theorem gok_fin {gi2 gi4 gi6 gi1 : GI} {g1 g2 g4 g6 : AG} (hR : SelfR g2) (hN : SelfN g1 g2) (n0 : g2.2.1 0 = 1) (hP : LPp wl_ff gi2 g2 6 gi4 g4) (o6 : ∀ t a j, a < g4.2.1 t → ¬ (t = 12 ∧ a = 0) → gi6 t a j = gi4 t a j ∧ g6.1 t a j = g4.1 t a j) (hU : RU wl_ff g6) (c6 : ∀ t, ¬ (t = 12 ∨ (63 ≤ t ∧ t ≤ 86)) → g6.2.1 t = g4.2.1 t) (c12 : g6.2.1 12 = 1)
    (f2 : g6.1 12 0 2 = some (63, 0)) (f3 : g6.1 12 0 3 = some (64, 0)) (f4 : g6.1 12 0 4 = some (65, 0)) (f5 : g6.1 12 0 5 = some (66, 0)) (f7 : g6.1 12 0 7 = some (67, 0)) (f8 : g6.1 12 0 8 = some (68, 0)) (f9 : g6.1 12 0 9 = some (69, 0)) (f12 : g6.1 12 0 12 = some (70, 0)) (f13 : g6.1 12 0 13 = some (71, 0)) (f14 : g6.1 12 0 14 = some (72, 0)) (f22 : g6.1 12 0 22 = some (73, 0)) (f23 : g6.1 12 0 23 = some (74, 0)) (f29 : g6.1 12 0 29 = some (75, 0)) (f30 : g6.1 12 0 30 = some (76, 0)) (f31 : g6.1 12 0 31 = some (77, 0)) (f37 : g6.1 12 0 37 = some (78, 0)) (f38 : g6.1 12 0 38 = some (79, 0)) (f39 : g6.1 12 0 39 = some (80, 0)) (f40 : g6.1 12 0 40 = some (81, 0)) (f41 : g6.1 12 0 41 = some (82, 0)) (f43 : g6.1 12 0 43 = some (83, 0)) (f46 : g6.1 12 0 46 = some (84, 0)) (f47 : g6.1 12 0 47 = some (85, 0)) (f48 : g6.1 12 0 48 = some (86, 0)) : GOK g6 := by
  obtain ⟨sP, kP, p3, p54, p59, ⟨pf, prow, p25⟩, -, -⟩ := hP
  obtain ⟨n1, n2, n5, n6, n7, n8, n9, n10, n11, n20, n25, n26, n27, n28, n29, n30, n47, nO⟩ := hN
  obtain ⟨h0_0, h0_1, h0_2, h0_3, h0_7, h0_10, h0_12, h0_13, h0_14, h0_15, h0_16, h0_17, h6_0, h6_1, h6_2, h6_9, h6_10, h6_11, h6_12, h6_13, h8_8, h8_9, h9_8, h9_9, h11_0, h7_0, h7_5, h5_0, h5_1, h10_7, h10_8, h10_9, h10_10, h10_11, h47, bf, brow, bth⟩ := hR
  have t4 : ∀ t a j, a < g4.2.1 t → ¬ (t = 12 ∧ a = 0) → g6.1 t a j = g4.1 t a j := fun t a j ha hn => (o6 t a j ha hn).2
  have t2 : ∀ t a j, a < g2.2.1 t → ¬ (t = 12 ∧ a = 0) → ¬ (t = 25 ∧ a = 0) → g6.1 t a j = g2.1 t a j := fun t a j ha hn h25 => (t4 t a j (Nat.lt_of_lt_of_le ha (sP.2.2.2 t)) hn).trans ((sP.1 t a j ha h25).2)
  have d : ∀ t, ¬ (t = 12 ∨ (63 ≤ t ∧ t ≤ 86)) → ¬ (t = 3 ∨ (54 ≤ t ∧ t ≤ 59)) → g6.2.1 t = g2.2.1 t := fun t q1 q2 => by rw [c6 t q1, kP t q2]
  have d2 : g6.2.1 2 = 6 := by rw [d 2 (by omega) (by omega), n2]
  have d26 : g6.2.1 26 = 1 := by rw [d 26 (by omega) (by omega), n26]
  have d3 : g6.2.1 3 = 6 := by rw [c6 3 (by omega), p3]
  have d58 : g6.2.1 58 = 6 := by rw [c6 58 (by omega), p54 58 (by omega) (by omega)]
  have x58 := p54 58 (by omega) (by omega)
  have x25 : g4.2.1 25 = 1 := by rw [kP 25 (by omega), n25]
  refine ⟨gk1 hU (by omega) (by rw [d 0 (by omega) (by omega)]; omega) ((t2 0 0 0 (by omega) (by omega) (by omega)).trans h0_0) (fun _ => rfl),
    gk1 hU (by omega) (by rw [d 0 (by omega) (by omega)]; omega) ((t2 0 0 1 (by omega) (by omega) (by omega)).trans h0_1) (fun _ => rfl),
    gk1 hU (by omega) (by rw [d 0 (by omega) (by omega)]; omega) ((t2 0 0 2 (by omega) (by omega) (by omega)).trans h0_2) (fun _ => rfl),
    gk1 hU (by omega) (by rw [d 0 (by omega) (by omega)]; omega) ((t2 0 0 3 (by omega) (by omega) (by omega)).trans h0_3) (fun _ => rfl),
    gk1 hU (by omega) (by rw [d 0 (by omega) (by omega)]; omega) ((t2 0 0 7 (by omega) (by omega) (by omega)).trans h0_7) (fun _ => rfl),
    gk1 hU (by omega) (by rw [d 0 (by omega) (by omega)]; omega) ((t2 0 0 10 (by omega) (by omega) (by omega)).trans h0_10) (fun _ => rfl),
    gk1 hU (by omega) (by rw [d 0 (by omega) (by omega)]; omega) ((t2 0 0 12 (by omega) (by omega) (by omega)).trans h0_12) (fun _ => rfl),
    gk1 hU (by omega) (by rw [d 0 (by omega) (by omega)]; omega) ((t2 0 0 13 (by omega) (by omega) (by omega)).trans h0_13) (fun _ => rfl),
    gk1 hU (by omega) (by rw [d 0 (by omega) (by omega)]; omega) ((t2 0 0 14 (by omega) (by omega) (by omega)).trans h0_14) (fun _ => rfl),
    gk1 hU (by omega) (by rw [d 0 (by omega) (by omega)]; omega) ((t2 0 0 15 (by omega) (by omega) (by omega)).trans h0_15) (fun _ => rfl),
    gk1 hU (by omega) (by rw [d 0 (by omega) (by omega)]; omega) ((t2 0 0 16 (by omega) (by omega) (by omega)).trans h0_16) (fun _ => rfl),
    gk1 hU (by omega) (by rw [d 0 (by omega) (by omega)]; omega) ((t2 0 0 17 (by omega) (by omega) (by omega)).trans h0_17) (fun _ => rfl),
    gk1 hU (by omega) (by rw [d 1 (by omega) (by omega)]; omega) ((t2 1 0 0 (by omega) (by omega) (by omega)).trans bf.1) (fun _ => rfl),
    gk1 hU (by omega) (by rw [d 1 (by omega) (by omega)]; omega) ((t2 1 0 2 (by omega) (by omega) (by omega)).trans bf.2.1) (fun _ => rfl),
    gk1 hU (by omega) (by rw [d 1 (by omega) (by omega)]; omega) ((t2 1 0 5 (by omega) (by omega) (by omega)).trans bf.2.2) (fun _ => rfl),
    gkn (n := 6) hU (by omega) (by omega) (fun a ha => (t2 2 a 4 (by omega) (by omega) (by omega)).trans (bth a (by omega)).1) (fun _ => rfl),
    gkn (n := 6) hU (by omega) (by omega) (fun a ha => (t2 2 a 5 (by omega) (by omega) (by omega)).trans (bth a (by omega)).2) (fun _ => rfl),
    gkn (n := 6) hU (by omega) (by omega) (fun a ha => (t4 3 a 5 (by omega) (by omega)).trans (pf a ha).1) (fun _ => rfl),
    gkn (n := 6) hU (by omega) (by omega) (fun a ha => (t4 3 a 6 (by omega) (by omega)).trans (pf a ha).2.1) (fun _ => rfl),
    gkn (n := 6) hU (by omega) (by omega) (fun a ha => (t4 3 a 7 (by omega) (by omega)).trans (pf a ha).2.2.1) (fun _ => rfl),
    gkn (n := 6) hU (by omega) (by omega) (fun a ha => (t4 3 a 8 (by omega) (by omega)).trans (pf a ha).2.2.2.1) (fun _ => rfl),
    gkn (n := 6) hU (by omega) (by omega) (fun a ha => (t4 3 a 9 (by omega) (by omega)).trans (pf a ha).2.2.2.2) (fun _ => rfl),
    gk1 hU (by omega) (by rw [d 5 (by omega) (by omega)]; omega) ((t2 5 0 0 (by omega) (by omega) (by omega)).trans h5_0) (fun _ => rfl),
    gk1 hU (by omega) (by rw [d 5 (by omega) (by omega)]; omega) ((t2 5 0 1 (by omega) (by omega) (by omega)).trans h5_1) (fun _ => rfl),
    gk1 hU (by omega) (by rw [d 6 (by omega) (by omega)]; omega) ((t2 6 0 0 (by omega) (by omega) (by omega)).trans h6_0) (fun _ => rfl),
    gk1 hU (by omega) (by rw [d 6 (by omega) (by omega)]; omega) ((t2 6 0 1 (by omega) (by omega) (by omega)).trans h6_1) (fun _ => rfl),
    gk1 hU (by omega) (by rw [d 6 (by omega) (by omega)]; omega) ((t2 6 0 2 (by omega) (by omega) (by omega)).trans h6_2) (fun _ => rfl),
    gk1 hU (by omega) (by rw [d 6 (by omega) (by omega)]; omega) ((t2 6 0 9 (by omega) (by omega) (by omega)).trans h6_9) (fun _ => rfl),
    gk1 hU (by omega) (by rw [d 6 (by omega) (by omega)]; omega) ((t2 6 0 10 (by omega) (by omega) (by omega)).trans h6_10) (fun _ => rfl),
    gk1 hU (by omega) (by rw [d 6 (by omega) (by omega)]; omega) ((t2 6 0 11 (by omega) (by omega) (by omega)).trans h6_11) (fun _ => rfl),
    gk1 hU (by omega) (by rw [d 6 (by omega) (by omega)]; omega) ((t2 6 0 12 (by omega) (by omega) (by omega)).trans h6_12) (fun _ => rfl),
    gk1 hU (by omega) (by rw [d 6 (by omega) (by omega)]; omega) ((t2 6 0 13 (by omega) (by omega) (by omega)).trans h6_13) (fun _ => rfl),
    gk1 hU (by omega) (by rw [d 7 (by omega) (by omega)]; omega) ((t2 7 0 0 (by omega) (by omega) (by omega)).trans h7_0) (fun _ => rfl),
    gk1 hU (by omega) (by rw [d 7 (by omega) (by omega)]; omega) ((t2 7 0 5 (by omega) (by omega) (by omega)).trans h7_5) (fun _ => rfl),
    gk1 hU (by omega) (by rw [d 8 (by omega) (by omega)]; omega) ((t2 8 0 8 (by omega) (by omega) (by omega)).trans h8_8) (fun _ => rfl),
    gk1 hU (by omega) (by rw [d 8 (by omega) (by omega)]; omega) ((t2 8 0 9 (by omega) (by omega) (by omega)).trans h8_9) (fun _ => rfl),
    gk1 hU (by omega) (by rw [d 9 (by omega) (by omega)]; omega) ((t2 9 0 8 (by omega) (by omega) (by omega)).trans h9_8) (fun _ => rfl),
    gk1 hU (by omega) (by rw [d 9 (by omega) (by omega)]; omega) ((t2 9 0 9 (by omega) (by omega) (by omega)).trans h9_9) (fun _ => rfl),
    gk1 hU (by omega) (by rw [d 10 (by omega) (by omega)]; omega) ((t2 10 0 7 (by omega) (by omega) (by omega)).trans h10_7) (fun _ => rfl),
    gk1 hU (by omega) (by rw [d 10 (by omega) (by omega)]; omega) ((t2 10 0 8 (by omega) (by omega) (by omega)).trans h10_8) (fun _ => rfl),
    gk1 hU (by omega) (by rw [d 10 (by omega) (by omega)]; omega) ((t2 10 0 9 (by omega) (by omega) (by omega)).trans h10_9) (fun _ => rfl),
    gk1 hU (by omega) (by rw [d 10 (by omega) (by omega)]; omega) ((t2 10 0 10 (by omega) (by omega) (by omega)).trans h10_10) (fun _ => rfl),
    gk1 hU (by omega) (by rw [d 10 (by omega) (by omega)]; omega) ((t2 10 0 11 (by omega) (by omega) (by omega)).trans h10_11) (fun _ => rfl),
    gk1 hU (by omega) (by rw [d 11 (by omega) (by omega)]; omega) ((t2 11 0 0 (by omega) (by omega) (by omega)).trans h11_0) (fun _ => rfl),
    gk1 hU (by omega) (by omega) f2 (fun _ => rfl),
    gk1 hU (by omega) (by omega) f3 (fun _ => rfl),
    gk1 hU (by omega) (by omega) f4 (fun _ => rfl),
    gk1 hU (by omega) (by omega) f5 (fun _ => rfl),
    gk1 hU (by omega) (by omega) f7 (fun _ => rfl),
    gk1 hU (by omega) (by omega) f8 (fun _ => rfl),
    gk1 hU (by omega) (by omega) f9 (fun _ => rfl),
    gk1 hU (by omega) (by omega) f12 (fun _ => rfl),
    gk1 hU (by omega) (by omega) f13 (fun _ => rfl),
    gk1 hU (by omega) (by omega) f14 (fun _ => rfl),
    gk1 hU (by omega) (by omega) f22 (fun _ => rfl),
    gk1 hU (by omega) (by omega) f23 (fun _ => rfl),
    gk1 hU (by omega) (by omega) f29 (fun _ => rfl),
    gk1 hU (by omega) (by omega) f30 (fun _ => rfl),
    gk1 hU (by omega) (by omega) f31 (fun _ => rfl),
    gk1 hU (by omega) (by omega) f37 (fun _ => rfl),
    gk1 hU (by omega) (by omega) f38 (fun _ => rfl),
    gk1 hU (by omega) (by omega) f39 (fun _ => rfl),
    gk1 hU (by omega) (by omega) f40 (fun _ => rfl),
    gk1 hU (by omega) (by omega) f41 (fun _ => rfl),
    gk1 hU (by omega) (by omega) f43 (fun _ => rfl),
    gk1 hU (by omega) (by omega) f46 (fun _ => rfl),
    gk1 hU (by omega) (by omega) f47 (fun _ => rfl),
    gk1 hU (by omega) (by omega) f48 (fun _ => rfl),
    fun a j => ?_, fun a j => ?_, fun a j => ?_, fun a j => ?_⟩
  · by_cases q : a = 0 ∧ j < 6
    · rw [q.1, t4 25 0 j (by omega) (by omega)]
      exact p25 j q.2
    · exact hU.1 25 a j (by omega) (by rw [d 25 (by omega) (by omega)]; unfold BG; omega)
  · by_cases q : a = 0 ∧ j < 6
    · rw [q.1, t2 26 0 j (by omega) (by omega) (by omega), brow j q.2]
      simp
    · exact hU.1 26 a j (by omega) (by unfold BG; omega)
  · by_cases q : a = 0 ∧ j < 6
    · rw [q.1, t2 47 0 j (by omega) (by omega) (by omega), h47 j q.2]
      simp
    · exact hU.1 47 a j (by omega) (by rw [d 47 (by omega) (by omega)]; unfold BG; omega)
  · by_cases q : a < 6 ∧ j < 8
    · rw [t4 58 a j (by omega) (by omega)]
      exact prow a j q.1 q.2
    · exact hU.1 58 a j (by omega) (by unfold BG; omega)
