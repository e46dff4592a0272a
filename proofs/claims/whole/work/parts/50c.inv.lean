/-! what holds between the calls, searches too -/
def Srch (gi : GI) (Ls : Nat → List PC) : Prop := ∃ v, v ≤ 1000 ∧ gi 0 0 9 = n32 v ∧ gi 12 0 1 = n32 v ∧ SF gi Ls v ∧ SM gi Ls v ∧ SL gi Ls v ∧ SW gi v
def Inv (n : Nat) (gi : GI) (g : AG) : Prop := ∃ Ls, Core n gi g Ls ∧ Srch gi Ls
theorem core_v {n : Nat} {gi : GI} {g : AG} {Ls : Nat → List PC} (h : Core n gi g Ls) : ∃ v, v ≤ n ∧ gi 0 0 9 = n32 v ∧ gi 12 0 1 = n32 v := by
  obtain ⟨len, v, dd, B, hv, -, -, -, ⟨e1, e2⟩, -⟩ := h.2.2.2.2.2
  exact ⟨v, hv, e1, e2⟩
theorem stale {x : Int32} {v : Nat} (hv : v ≤ 1000) (h : x = -1 ∨ ∃ y, y ≤ v ∧ x = n32 y) : ¬ x = n32 (v + 1) := by
  rcases h with h | ⟨y, hy, h⟩
  · rw [h, n32_m1' (by omega)]
    exact id
  · rw [h, n32_eq (by omega) (by omega)]
    omega
theorem wider {x : Int32} {v : Nat} (h : x = -1 ∨ ∃ y, y ≤ v ∧ x = n32 y) : x = -1 ∨ ∃ y, y ≤ v + 1 ∧ x = n32 y := h.imp id (fun ⟨y, hy, e⟩ => ⟨y, by omega, e⟩)
theorem Srch_step {n : Nat} {gi gi' : GI} {g' : AG} {Ls Ls' : Nat → List PC} (hn : n < 520) (hC : Core (n + 1) gi' g' Ls') (hS : Srch gi Ls) (hst : Step gi gi') (hL : (gi' 0 0 9 = gi 0 0 9 + n32 1) ∨ Ls' = Ls) : Srch gi' Ls' := by
  obtain ⟨v, hv, h9, h1, hF, hM, hFl, hW⟩ := hS
  obtain ⟨hsr, hch⟩ := hst
  obtain ⟨v', hv', e9, e1⟩ := core_v hC
  have up : gi' 0 0 9 = gi 0 0 9 + n32 1 → Srch gi' Ls' := by
    intro q
    rw [h9, n32_add] at q
    have hvv : v' = v + 1 := by
      have := e9.symm.trans q
      rw [n32_eq (by omega) (by omega)] at this
      exact this
    subst hvv
    refine ⟨v + 1, by omega, e9, e1, ⟨?_, fun z => ?_⟩, ⟨?_, fun z => ?_⟩, ⟨?_, fun z => ?_⟩, ⟨?_, fun z => ?_⟩⟩
    · rw [hsr 8 0 4 rfl]
      exact wider hF.1
    · rw [hsr 8 0 4 rfl] at z
      exact absurd z (stale hv hF.1)
    · rw [hsr 12 0 34 rfl]
      exact wider hM.1
    · rw [hsr 12 0 34 rfl] at z
      exact absurd z (stale hv hM.1)
    · rw [hsr 9 0 5 rfl]
      exact wider hFl.1
    · rw [hsr 9 0 5 rfl] at z
      exact absurd z (stale hv hFl.1)
    · rw [hsr 10 0 0 rfl]
      exact wider hW.1
    · rw [hsr 10 0 0 rfl] at z
      exact absurd z (stale hv hW.1)
  rcases hch with ⟨q9, q1, q64⟩ | q
  · rcases hL with q | rfl
    · exact up q
    · have s12 : ∀ j, 32 ≤ j → j ≤ 36 → gi' 12 0 j = gi 12 0 j := fun j j1 j2 => hsr 12 0 j (by
        unfold srch
        rw [Nat.ble_eq.mpr j1, Nat.ble_eq.mpr j2]
        rfl)
      exact ⟨v, hv, q9.trans h9, q1.trans h1, SF_of hF (fun j => hsr 8 0 j rfl) (fun j => hsr 44 0 j rfl) q64, SM_of hM s12 (fun j => hsr 77 0 j rfl) q64, SL_of hFl (fun j => hsr 9 0 j rfl) (fun j => hsr 45 0 j rfl) (fun j => hsr 46 0 j rfl) q64, SW_of hW (fun j => hsr 10 0 j rfl) (fun j => hsr 49 0 j rfl) (fun j => hsr 51 0 j rfl) q64⟩
  · exact up q
/-- a call on both keeps what holds -/
def OpI (mC mM : Nat) (as : List AV) : Prop := ∀ (D n : Nat) (gi : GI) (g : AG) (Q : Option AV → Option AV → AH → Prop), 70 ≤ D → n < 520 → Inv n gi g → (∀ v gi' g', Inv (n + 1) gi' g' → Q (some (.inl v)) (some (.inl v)) (gi', g')) → ax_call D mC (.inr (.inr (some (0, 0))) :: as) (gi, g) (fun r h => ax_call D mM (.inr (.inr (some (12, 0))) :: as) h (fun r' h' => Q r r' h'))
theorem OpI_of {mC mM : Nat} {as : List AV} (h : Op mC mM as) : OpI mC mM as := by
  intro D n gi g Q hD hn hI hQ
  obtain ⟨Ls, hC, hS⟩ := hI
  exact h D n gi g Ls Q hD hn hC (fun v gi' g' Ls' hC' hst hL => hQ v gi' g' ⟨Ls', hC', Srch_step hn hC' hS hst hL⟩)
theorem oi_free (x y z : Int32) : OpI m_S_free m_M_free [.inl x, .inl y, .inl z] := by
  intro D n gi g Q hD hn hI hQ
  obtain ⟨Ls, hC, v, hv, h9, h1, hF, hM, hFl, hW⟩ := hI
  refine op_free hD hn hC h9 h1 hv hF hM (fun r gi' g' hC' fr hF' hM' => hQ r gi' g' ⟨Ls, hC', v, hv, ?_, ?_, hF', hM', ?_, ?_⟩)
  · rw [fr 0 0 9 (by omega), h9]
  · rw [fr 12 0 1 (by omega), h1]
  · exact SL_of hFl (fun j => fr 9 0 j (by omega)) (fun j => fr 45 0 j (by omega)) (fun j => fr 46 0 j (by omega)) (fun j => fr 64 0 j (by omega))
  · exact SW_of hW (fun j => fr 10 0 j (by omega)) (fun j => fr 49 0 j (by omega)) (fun j => fr 51 0 j (by omega)) (fun j => fr 64 0 j (by omega))
theorem oi_fills (x y z : Int32) : OpI m_S_fills m_M_fills [.inl x, .inl y, .inl z] := by
  intro D n gi g Q hD hn hI hQ
  obtain ⟨Ls, hC, v, hv, h9, h1, hF, hM, hFl, hW⟩ := hI
  refine op_fills hD hn hC h9 hv hFl (fun r gi' g' hC' fr hFl' => hQ r gi' g' ⟨Ls, hC', v, hv, ?_, ?_, ?_, ?_, hFl', ?_⟩)
  · rw [fr 0 0 9 (by omega), h9]
  · rw [fr 12 0 1 (by omega), h1]
  · exact SF_of hF (fun j => fr 8 0 j (by omega)) (fun j => fr 44 0 j (by omega)) (fun j => fr 64 0 j (by omega))
  · exact SM_of hM (fun j _ _ => fr 12 0 j (by omega)) (fun j => fr 77 0 j (by omega)) (fun j => fr 64 0 j (by omega))
  · exact SW_of hW (fun j => fr 10 0 j (by omega)) (fun j => fr 49 0 j (by omega)) (fun j => fr 51 0 j (by omega)) (fun j => fr 64 0 j (by omega))
theorem oi_sure (x y z a b : Int32) : OpI m_S_sure m_M_sure [.inl x, .inl y, .inl z, .inl a, .inl b] := by
  intro D n gi g Q hD hn hI hQ
  obtain ⟨Ls, hC, v, hv, h9, h1, hF, hM, hFl, hW⟩ := hI
  refine op_sure hD hn hC h9 hv hFl (fun r gi' g' hC' fr hFl' => hQ r gi' g' ⟨Ls, hC', v, hv, ?_, ?_, ?_, ?_, hFl', ?_⟩)
  · rw [fr 0 0 9 (by omega), h9]
  · rw [fr 12 0 1 (by omega), h1]
  · exact SF_of hF (fun j => fr 8 0 j (by omega)) (fun j => fr 44 0 j (by omega)) (fun j => fr 64 0 j (by omega))
  · exact SM_of hM (fun j _ _ => fr 12 0 j (by omega)) (fun j => fr 77 0 j (by omega)) (fun j => fr 64 0 j (by omega))
  · exact SW_of hW (fun j => fr 10 0 j (by omega)) (fun j => fr 49 0 j (by omega)) (fun j => fr 51 0 j (by omega)) (fun j => fr 64 0 j (by omega))
theorem oi_street (x : Int32) : OpI m_S_street m_M_street [.inl x] := by
  intro D n gi g Q hD hn hI hQ
  obtain ⟨Ls, hC, v, hv, h9, h1, hF, hM, hFl, hW⟩ := hI
  refine op_street hD hC h9 hW (fun r gi' g' hC' fr hW' => hQ r gi' g' ⟨Ls, hC', v, hv, ?_, ?_, ?_, ?_, ?_, hW'⟩)
  · rw [fr 0 0 9 (by omega), h9]
  · rw [fr 12 0 1 (by omega), h1]
  · exact SF_of hF (fun j => fr 8 0 j (by omega)) (fun j => fr 44 0 j (by omega)) (fun j => fr 64 0 j (by omega))
  · exact SM_of hM (fun j _ _ => fr 12 0 j (by omega)) (fun j => fr 77 0 j (by omega)) (fun j => fr 64 0 j (by omega))
  · exact SL_of hFl (fun j => fr 9 0 j (by omega)) (fun j => fr 45 0 j (by omega)) (fun j => fr 46 0 j (by omega)) (fun j => fr 64 0 j (by omega))
theorem oi_best (x : Int32) : OpI m_S_best m_M_best [.inl x] := by
  intro D n gi g Q hD hn hI hQ
  obtain ⟨Ls, hC, v, hv, h9, h1, hF, hM, hFl, hW⟩ := hI
  refine op_best hD hC h9 hW (fun r gi' g' hC' fr hW' => hQ r gi' g' ⟨Ls, hC', v, hv, ?_, ?_, ?_, ?_, ?_, hW'⟩)
  · rw [fr 0 0 9 (by omega), h9]
  · rw [fr 12 0 1 (by omega), h1]
  · exact SF_of hF (fun j => fr 8 0 j (by omega)) (fun j => fr 44 0 j (by omega)) (fun j => fr 64 0 j (by omega))
  · exact SM_of hM (fun j _ _ => fr 12 0 j (by omega)) (fun j => fr 77 0 j (by omega)) (fun j => fr 64 0 j (by omega))
  · exact SL_of hFl (fun j => fr 9 0 j (by omega)) (fun j => fr 45 0 j (by omega)) (fun j => fr 46 0 j (by omega)) (fun j => fr 64 0 j (by omega))
theorem oi_bestAt (x : Int32) : OpI m_S_bestAt m_M_bestAt [.inl x] := by
  intro D n gi g Q hD hn hI hQ
  obtain ⟨Ls, hC, v, hv, h9, h1, hF, hM, hFl, hW⟩ := hI
  refine op_bestAt hD hC h9 hW (fun r gi' g' hC' fr hW' => hQ r gi' g' ⟨Ls, hC', v, hv, ?_, ?_, ?_, ?_, ?_, hW'⟩)
  · rw [fr 0 0 9 (by omega), h9]
  · rw [fr 12 0 1 (by omega), h1]
  · exact SF_of hF (fun j => fr 8 0 j (by omega)) (fun j => fr 44 0 j (by omega)) (fun j => fr 64 0 j (by omega))
  · exact SM_of hM (fun j _ _ => fr 12 0 j (by omega)) (fun j => fr 77 0 j (by omega)) (fun j => fr 64 0 j (by omega))
  · exact SL_of hFl (fun j => fr 9 0 j (by omega)) (fun j => fr 45 0 j (by omega)) (fun j => fr 46 0 j (by omega)) (fun j => fr 64 0 j (by omega))
theorem Inv_same {n : Nat} {gi : GI} {g : AG} (h : Inv n gi g) : Inv (n + 1) gi g := by
  obtain ⟨Ls, hC, hS⟩ := h
  exact ⟨Ls, (Core_same hC).1, hS⟩
theorem own102 : ¬ ax_own 102 := by
  unfold ax_own
  decide
/-- a call on both, in the law -/
theorem law_two {D mC mM n : Nat} {as : List AV} {gi : GI} {g : AG} {Z : Option AV → AH → Prop} (hOp : OpI mC mM as) (hD : 70 ≤ D) (hn : n < 520) (hI : Inv n gi g) (hZ : ∀ v gi1 g1, gi1 102 = gi 102 → g1.2.2.1 102 = g.2.2.1 102 → (∀ Y : Option AV → AH → Prop, (∀ (gi2 : GI) (g2 : AG), g2.2.2.1 102 = g.2.2.1 102 → Inv (n + 1) gi2 g2 → Y (some (.inl v)) (gi2, g2)) → ax_call D mM (.inr (.inr (some (12, 0))) :: as) (gi1, g1) Y) → Z (some (.inl v)) (gi1, g1)) : ax_call D mC (.inr (.inr (some (0, 0))) :: as) (gi, g) Z := by
  have h := two_fx (hOp D n gi g (fun r r' h' => ∃ (v : Int32) (gi2 : GI) (g2 : AG), r = some (.inl v) ∧ r' = some (.inl v) ∧ h' = (gi2, g2) ∧ Inv (n + 1) gi2 g2) hD hn hI (fun v gi' g' hI' => ⟨v, gi', g', rfl, rfl, rfl, hI'⟩))
  refine ax_call_Q h (fun r h1 q => ?_)
  obtain ⟨gi1, g1⟩ := h1
  obtain ⟨f1, q⟩ := q
  obtain ⟨r', h', ⟨f2, v, gi2, g2, rfl, rfl, rfl, hI2⟩, hall⟩ := ax_call_det D _ _ _ _ q
  have e1 := f1 102 own102
  have e2 := f2 102 own102
  exact hZ v gi1 g1 e1.1 e1.2.2.2 (fun Y hY => hall Y (hY gi2 g2 e2.2.2.2 hI2))
