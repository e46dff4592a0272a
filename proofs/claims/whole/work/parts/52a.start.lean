/-! both made, then the loop -/
def SFacts (gi1 : GI) (g1 : AG) (h : AH) : Prop := ∃ (gi2 : GI) (g2 : AG) (gi3 : GI) (g3 : AG), ST wl_ff gi1 g1 0 0 gi2 g2 ∧ SelfR g2 ∧ SelfI gi1 gi2 ∧ SelfN g1 g2 ∧ g2.2.2.2.1 ≤ g1.2.2.2.1 + 70 ∧ g2.2.2.2.2 ≤ g1.2.2.2.2 + 14000 ∧ LB wl_ff gi2 g2 2 gi3 g3 ∧ LPp wl_ff gi3 g3 6 h.1 h.2
theorem n_S {d : Nat} {gi : GI} {g : AG} (hU : RU wl_ff g) (hZ : ZS gi) (hw : g.2.1 0 = 1) (hc : ∀ t, 1 ≤ t → t ≤ 62 → t ≠ 12 → g.2.1 t = 0) (h100 : 0 < g.2.1 100) : ax_call (d + 4) m_S_init [.inr (.inr (some (0, 0)))] (gi, g) (fun r h => r = none ∧ SFacts gi g h) := by
  refine n_Self hU hZ (by omega) hc h100 (fun gi2 g2 s2 hR hI hN a2 l2 => ?_)
  have hR' := hR
  have hN' := hN
  obtain ⟨n1, n2, n5, n6, n7, n8, n9, n10, n11, n20, n25, n26, n27, n28, n29, n30, n47, nO⟩ := hN
  obtain ⟨p0, p1, p2, p3, p7, p10, p12, hR⟩ := hR
  have z0 : 0 < g2.2.1 0 := Nat.lt_of_lt_of_le (show 0 < g.2.1 0 by omega) (s2.2.2.2 0)
  have z100 : 0 < g2.2.1 100 := Nat.lt_of_lt_of_le h100 (s2.2.2.2 100)
  obtain ⟨-, -, -, -, -, -, -, -, -, -, -, -, -, -, -, -, -, -, -, -, -, -, -, -, -, -, -, -, -, -, hb, hrow, hth⟩ := hR
  have hb0 : BkR g2 1 := ⟨fun r hr => by
    have : r = 0 := by omega
    subst this
    exact hb, fun r k hr hk => by
    have : r = 0 := by omega
    subst this
    rw [hrow k hk]
    congr 2
    omega, fun w hw => hth w (by omega)⟩
  refine n_images (F := wl_ff) ⟨ST_refl s2.2.1 s2.2.2.1, fun _ _ => rfl, ⟨n1, n26, n27, n28⟩, ⟨n2, n29, n30⟩, hb0, fun j hj => absurd hj (Nat.not_lt_zero j), by omega, by omega⟩ n20 z0 p1 z100 (fun gi3 g3 hB => ?_)
  have hB' := hB
  obtain ⟨s3, k3, -⟩ := hB
  have e : ∀ t, t = 3 ∨ (54 ≤ t ∧ t ≤ 59) → g3.2.1 t = 0 := fun t ht => by rw [k3 t (by omega), nO t (by omega), hc t (by omega) (by omega) (by omega)]
  refine n_papers (F := wl_ff) ⟨ST_refl s3.2.1 s3.2.2.1, fun _ _ => rfl, e 3 (by omega), fun t q1 q2 => e t (by omega), e 59 (by omega), ⟨fun t ht => absurd ht (Nat.not_lt_zero t), fun t j ht => absurd ht (Nat.not_lt_zero t), fun j hj => absurd hj (Nat.not_lt_zero j)⟩, by omega, by omega⟩ (by rw [k3 25 (by omega), n25]) (Nat.lt_of_lt_of_le z0 (s3.2.2.2 0)) ((s3.1 0 0 12 z0 (by omega)).2.trans p12) (fun gi4 g4 hP => ?_)
  exact ⟨rfl, gi2, g2, gi3, g3, s2, hR', hI, hN', a2, l2, hB', hP⟩
