/-! both made, then the loop -/
def SFacts (gi1 : GI) (g1 : AG) (h : AH) : Prop := ∃ (gi2 : GI) (g2 : AG), ST wl_ff gi1 g1 0 0 gi2 g2 ∧ SelfR g2 ∧ SelfI gi1 gi2 ∧ SelfN g1 g2 ∧ g2.2.2.2.1 ≤ g1.2.2.2.1 + 70 ∧ g2.2.2.2.2 ≤ g1.2.2.2.2 + 14000 ∧ LPp wl_ff gi2 g2 6 h.1 h.2
theorem n_S {d : Nat} {gi : GI} {g : AG} (hU : RU wl_ff g) (hZ : ZS gi) (hw : g.2.1 0 = 1) (hc : ∀ t, 1 ≤ t → t ≤ 62 → t ≠ 12 → g.2.1 t = 0) (h100 : 0 < g.2.1 100) : ax_call (d + 4) m_S_init [.inr (.inr (some (0, 0)))] (gi, g) (fun r h => r = none ∧ SFacts gi g h) := by
  refine n_Self hU hZ (by omega) hc h100 (fun gi2 g2 s2 hR hI hN a2 l2 => ?_)
  have hR' := hR
  have hN' := hN
  obtain ⟨n1, n2, n5, n6, n7, n8, n9, n10, n11, n20, n25, n26, n27, n28, n29, n30, n47, nO⟩ := hN
  obtain ⟨p0, p1, p2, p3, p7, p10, p12, hR⟩ := hR
  have z0 : 0 < g2.2.1 0 := Nat.lt_of_lt_of_le (show 0 < g.2.1 0 by omega) (s2.2.2.2 0)
  have e : ∀ t, t = 3 ∨ (54 ≤ t ∧ t ≤ 59) → g2.2.1 t = 0 := fun t ht => by rw [nO t (by omega), hc t (by omega) (by omega) (by omega)]
  refine n_papers (F := wl_ff) ⟨ST_refl s2.2.1 s2.2.2.1, fun _ _ => rfl, e 3 (by omega), fun t q1 q2 => e t (by omega), e 59 (by omega), ⟨fun t ht => absurd ht (Nat.not_lt_zero t), fun t j ht => absurd ht (Nat.not_lt_zero t), fun j hj => absurd hj (Nat.not_lt_zero j)⟩, by omega, by omega⟩ n25 z0 p12 (fun gi4 g4 hP => ?_)
  exact ⟨rfl, gi2, g2, s2, hR', hI, hN', a2, l2, hP⟩
