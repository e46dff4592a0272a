/-! at the start all holds -/
theorem inv0 {gi : GI} {g : AG} (hG : GOK g) (hZ : ZS gi) (h27 : ∀ a j, g.1 27 a j = none ∧ g.1 20 a j = none) (hBk : BkC g 1) (hS : StrOK gi g) (hSt : StatOK gi) (hW : WordsOK gi) (c4 : g.2.1 4 = 0) (c60 : g.2.1 60 = 0) (c61 : g.2.1 61 = 0) (c62 : g.2.1 62 = 0) (hce : g.2.2.2.1 ≤ 400) (hsl : g.2.2.2.2 ≤ 100000) (m0 : gi 0 0 5 = -1) (m8 : gi 8 0 4 = -1) (m9 : gi 9 0 5 = -1) (m10 : gi 10 0 0 = -1) (m1 : gi 1 0 4 = -1) (m280 : gi 28 0 0 = n32 0) (m281 : gi 28 0 1 = n32 0) (m282 : gi 28 0 2 = n32 1) (m283 : gi 28 0 3 = n32 5) (m11 : gi 12 0 11 = -1) (m34 : gi 12 0 34 = -1) (m4 : gi 64 0 794 = n32 1) (m5 : gi 64 0 795 = n32 5) (m7 : gi 64 0 798 = -1) : Inv 0 gi g := by
  have z : ∀ s a j, s < 100 → ¬ DZ s j → gi s a j = n32 0 := fun s a j h1 h2 => hZ s a j h1 h2
  have no : ¬ (-1 : Int32) = n32 0 := by decide
  refine ⟨fun _ => [], ⟨⟨hG, hS, hW, hSt, ⟨0, c4, c60, c61, c62⟩, by omega, by omega⟩, ⟨0, 0, ⟨by omega, by omega, ?_, ?_, ?_, ?_, ?_, Or.inl m7, ⟨⟨0, by omega, ?_⟩, ⟨0, by omega, ?_⟩, ⟨1, by omega, by omega, m4⟩, ⟨5, by omega, m5⟩⟩, fun k hk => ?_⟩, fun t ht => absurd ht (Nat.not_lt_zero t), fun l hl => absurd hl (Nat.not_lt_zero l)⟩, ⟨⟨fun r l _ => Or.inl (h27 r l).1, ⟨1, Nat.le_refl _, hBk⟩, fun r e => absurd e (by rw [(h27 0 0).2]; simp)⟩, fun k hk => Or.inl ⟨?_, (h27 0 k).2⟩⟩, fun t ht => Or.inl ⟨?_, ?_⟩, ⟨0, by omega, ?_, by omega, fun k hk => ⟨0, Nat.le_refl _, ?_⟩⟩, ⟨0, 0, 0, fun _ => 0, Nat.le_refl _, ⟨by omega, ?_, ?_⟩, ⟨?_, ?_, ?_⟩, ⟨?_, ?_, ?_, ?_, ?_⟩, ⟨?_, ?_⟩, ⟨by omega, ?_, ?_, fun i hi => absurd hi (Nat.not_lt_zero i)⟩, fun i hi => ⟨?_, show (0 : Nat) < 256 by omega⟩, fun i hi => ?_⟩⟩, ⟨0, by omega, ?_, ?_, ⟨Or.inl m8, fun q => absurd (m8.symm.trans q) no⟩, ⟨Or.inl m34, fun q => absurd (m34.symm.trans q) no⟩, ⟨Or.inl m9, fun q => absurd (m9.symm.trans q) no⟩, ⟨Or.inl m10, fun q => absurd (m10.symm.trans q) no⟩⟩⟩
  · exact z 64 0 796 (by omega) (by unfold DZ; omega)
  · exact z 64 0 797 (by omega) (by unfold DZ; omega)
  · exact z 1 0 1 (by omega) (by unfold DZ; omega)
  · exact z 1 0 3 (by omega) (by unfold DZ; omega)
  · rw [m1, m7]
  · exact z 64 0 792 (by omega) (by unfold DZ; omega)
  · exact z 64 0 793 (by omega) (by unfold DZ; omega)
  · have cs : k = 0 ∨ k = 1 ∨ k = 2 ∨ k = 3 := by omega
    rcases cs with rfl | rfl | rfl | rfl
    · rw [m280]
      exact (z 64 0 792 (by omega) (by unfold DZ; omega)).symm
    · rw [m281]
      exact (z 64 0 793 (by omega) (by unfold DZ; omega)).symm
    · rw [m282]
      exact m4.symm
    · rw [m283]
      exact m5.symm
  · exact z 66 0 k (by omega) (by unfold DZ; omega)
  · exact z 3 t 0 (by omega) (by unfold DZ; omega)
  · exact z 3 t 1 (by omega) (by unfold DZ; omega)
  · exact z 7 0 4 (by omega) (by unfold DZ; omega)
  · exact z 39 0 k (by omega) (by unfold DZ; omega)
  · exact z 0 0 4 (by omega) (by unfold DZ; omega)
  · exact z 12 0 10 (by omega) (by unfold DZ; omega)
  · rw [m0, m11]
  · rw [z 0 0 6 (by omega) (by unfold DZ; omega), z 12 0 6 (by omega) (by unfold DZ; omega)]
  · rw [z 0 0 8 (by omega) (by unfold DZ; omega), z 12 0 0 (by omega) (by unfold DZ; omega)]
  · rw [z 23 0 _ (by omega) (by unfold DZ; omega), z 63 0 _ (by omega) (by unfold DZ; omega)]
  · rw [z 23 0 _ (by omega) (by unfold DZ; omega), z 63 0 _ (by omega) (by unfold DZ; omega)]
  · rw [z 23 0 _ (by omega) (by unfold DZ; omega), z 63 0 _ (by omega) (by unfold DZ; omega)]
  · rw [z 23 0 _ (by omega) (by unfold DZ; omega), z 63 0 _ (by omega) (by unfold DZ; omega)]
  · rw [z 23 0 _ (by omega) (by unfold DZ; omega), z 63 0 _ (by omega) (by unfold DZ; omega)]
  · exact z 0 0 9 (by omega) (by unfold DZ; omega)
  · exact z 12 0 1 (by omega) (by unfold DZ; omega)
  · exact z 0 0 11 (by omega) (by unfold DZ; omega)
  · exact z 12 0 49 (by omega) (by unfold DZ; omega)
  · exact z 22 0 i (by omega) (by unfold DZ; omega)
  · rw [z 68 0 i (by omega) (by unfold DZ; omega)]
    show SB (n32 0) 0
    exact ⟨by omega, fun _ => rfl, fun h => absurd h (by omega), by decide⟩
  · exact z 0 0 9 (by omega) (by unfold DZ; omega)
  · exact z 12 0 1 (by omega) (by unfold DZ; omega)
theorem str_fx {L : Nat} {xs : Nat → Int32} {fo : AR} {gi : GI} {g : AG} (h : Fx (wl_h0 L xs fo) (gi, g)) : StrOK gi g := by
  have e1 := h 101 (by unfold ax_own; decide)
  have e3 := h 103 (by unfold ax_own; decide)
  intro w hw
  have k1 : gi 101 = wl_gi xs 101 := e1.1
  have k2 : g.1 101 = wl_gr fo 101 := e1.2.1
  have k3 : gi 103 = wl_gi xs 103 := e3.1
  have k4 : g.2.2.1 103 = wl_gl L 103 := e3.2.2.2
  rw [k1, k2, k3, k4]
  refine ⟨rfl, rfl, ?_, fun i hi => ?_⟩
  · exact (by decide : ∀ w, w < 14 → wl_len.getD w 0 = (wd w).length) w hw
  · exact (by decide : ∀ w, w < 14 → ∀ i, i < (wd w).length → (wl_byt.getD w []).getD i 0 = n32 ((wd w).getD i 0)) w hw i hi
theorem stat_fx {L : Nat} {xs : Nat → Int32} {fo : AR} {gi : GI} {g : AG} (h : Fx (wl_h0 L xs fo) (gi, g)) : StatOK gi := by
  have k1 : gi 100 = wl_gi xs 100 := (h 100 (by unfold ax_own; decide)).1
  unfold StatOK
  rw [k1]
  exact ⟨⟨rfl, rfl, rfl, rfl⟩, rfl, rfl, rfl, rfl⟩
