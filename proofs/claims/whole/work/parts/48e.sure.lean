/-! sure, on both -/
theorem op_sure {D n v : Nat} {x y z a b : Int32} {gi : GI} {g : AG} {Ls : Nat → List PC} {Q : Option AV → Option AV → AH → Prop} (hD : 70 ≤ D) (hn : n < 520) (hC : Core n gi g Ls) (h9 : gi 0 0 9 = n32 v) (hv : v ≤ 1000) (hSL : SL gi Ls v)
    (hQ : ∀ r gi' g', Core (n + 1) gi' g' Ls → (∀ s a j, s = 0 ∨ s = 64 ∨ s = 8 ∨ s = 10 ∨ s = 43 ∨ s = 44 ∨ (47 ≤ s ∧ s ≤ 52) ∨ s = 77 ∨ (s = 12 ∧ (j < 15 ∨ (32 ≤ j ∧ j ≤ 36))) → gi' s a j = gi s a j) → SL gi' Ls v → Q (some (.inl r)) (some (.inl r)) (gi', g')) :
    ax_call D m_S_sure [.inr (.inr (some (0, 0))), .inl x, .inl y, .inl z, .inl a, .inl b] (gi, g) (fun r h => ax_call D m_M_sure [.inr (.inr (some (12, 0))), .inl x, .inl y, .inl z, .inl a, .inl b] h (fun r' h' => Q r r' h')) := by
  obtain ⟨d, rfl⟩ : ∃ d2, D = d2 + 50 := ⟨D - 50, by omega⟩
  obtain ⟨nt, m, s, hB, hG, b1, n6, hTh, hPI, hs2, hs, k796⟩ := ask_of hC
  have same : Q (some (.inl (-1))) (some (.inl (-1))) (gi, g) := hQ _ gi g (Core_same hC).1 (fun _ _ _ _ => rfl) hSL
  rcases win_cases x nt (by omega) with ⟨t, ht, rfl⟩ | hx
  · have hv' := thing_b hB ht
    have hW := hv'.1.2.2.2.1
    have hT := hv'.1.2.2.2.2.1
    have h64 := wt64 hW.2 hT.2
    rcases xy_cases a b (Wk (gi 64 0) t) (Tk (gi 64 0) t) hW.2 hT.2 with ⟨ca, cb, ha, hb, rfl, rfl⟩ | hxy
    · have hlt := xy_lt ha hb
      -- the numbers can't be
      have bad : (win y (n32 2) (n32 4) = n32 0 ∨ win z (n32 0) (n32 9999) = n32 0) → ax_call (d + 50) m_S_sure [.inr (.inr (some (0, 0))), .inl (n32 t), .inl y, .inl z, .inl (n32 ca), .inl (n32 cb)] (gi, g) (fun r h => ax_call (d + 50) m_M_sure [.inr (.inr (some (12, 0))), .inl (n32 t), .inl y, .inl z, .inl (n32 ca), .inl (n32 cb)] h (fun r' h' => Q r r' h')) := by
        intro h
        rw [e_S_sure, b_S_sure_0]
        simp (disch := omega) only [b_S_sure_12, b_S_sure_20, c_Books_cellOf _ _ _ _ hG b1 n6 ht hv'.1.1 hv'.1.2.1 hW.2 hT.2 ha hb, G_0_0 hG, G_0_1 hG, G_0_2 hG, G_0_3 hG, G_0_7 hG, G_0_10 hG, G_0_12 hG, G_0_13 hG, G_0_14 hG, G_0_15 hG, G_0_16 hG, G_0_17 hG, G_1_0 hG, G_1_2 hG, G_1_5 hG, G_2_4 hG, G_2_5 hG, G_3_5 hG, G_3_6 hG, G_3_7 hG, G_3_8 hG, G_3_9 hG, G_5_0 hG, G_5_1 hG, G_6_0 hG, G_6_1 hG, G_6_2 hG, G_6_9 hG, G_6_10 hG, G_6_11 hG, G_6_12 hG, G_6_13 hG, G_7_0 hG, G_7_5 hG, G_8_8 hG, G_8_9 hG, G_9_8 hG, G_9_9 hG, G_10_7 hG, G_10_8 hG, G_10_9 hG, G_10_10 hG, G_10_11 hG, G_11_0 hG, G_12_2 hG, G_12_3 hG, G_12_4 hG, G_12_5 hG, G_12_7 hG, G_12_8 hG, G_12_9 hG, G_12_12 hG, G_12_13 hG, G_12_14 hG, G_12_22 hG, G_12_23 hG, G_12_29 hG, G_12_30 hG, G_12_31 hG, G_12_37 hG, G_12_38 hG, G_12_39 hG, G_12_40 hG, G_12_41 hG, G_12_43 hG, G_12_46 hG, G_12_47 hG, G_12_48 hG, G_25 hG, G_26 hG, G_47 hG, G_58 hG, n32_add, n32_mul, n32_lt, n32_le, n32_eq, n32_clamp, n32_inT, n32_div, n32_rem, n32_m1, n32_m1', n32_m1lt, n32_ltm1, n32_10, n32_01, Nat.not_lt_zero, Nat.lt_irrefl, Nat.mul_zero, Nat.zero_mul, Nat.zero_add, Nat.add_zero, Nat.reduceEqDiff, Nat.one_ne_zero, Nat.zero_ne_one, ax_psh_none, ax_psh_some, true_and, and_true, and_false, false_and, not_true_eq_false, not_false_eq_true, true_imp_iff, false_imp_iff, imp_self, or_true, true_or, or_false, false_or, and_self, ite_true, ite_false, if_true, if_false]
        rw [c_seekFill_n (d := d + 35) hG n6 b1 k796 h9 hSL (Or.inr h)]
        simp (disch := omega) only [b_S_sure_27, b_S_sure_30, e_M_sure, b_M_sure_0, b_M_sure_5, b_M_sure_8, b_M_sure_13, b_M_sure_58, c_M_isThing _ _ _ _ hG, k796, win_sT ht (by omega), c_areParts, if_pos h, n32_add, n32_mul, n32_lt, n32_le, n32_eq, n32_clamp, n32_inT, n32_div, n32_rem, n32_m1, n32_m1', n32_m1lt, n32_ltm1, n32_10, n32_01, Nat.not_lt_zero, Nat.lt_irrefl, Nat.mul_zero, Nat.zero_mul, Nat.zero_add, Nat.add_zero, Nat.reduceEqDiff, Nat.one_ne_zero, Nat.zero_ne_one, ax_psh_none, ax_psh_some, true_and, and_true, and_false, false_and, not_true_eq_false, not_false_eq_true, true_imp_iff, false_imp_iff, imp_self, or_true, true_or, or_false, false_or, and_self, ite_true, ite_false, if_true, if_false]
        exact same
      rcases win_cases2 y 2 4 (by omega) (by omega) with ⟨P, hP1, hP2, rfl⟩ | hy
      · rcases win_cases2 z 0 9999 (by omega) (by omega) with ⟨sum, -, hsum, rfl⟩ | hz
        · obtain ⟨hH6, hcm, hinj⟩ := hoK_le hB ht
          have hpp : ¬ (win (n32 P) (n32 2) (n32 4) = n32 0 ∨ win (n32 sum) (n32 0) (n32 9999) = n32 0) := by
            rw [win_yes hP1 hP2 (by omega), win_yes (Nat.zero_le _) hsum (by omega), n32_10]
            simp
          rw [e_S_sure, b_S_sure_0]
          simp (disch := omega) only [b_S_sure_12, b_S_sure_20, c_Books_cellOf _ _ _ _ hG b1 n6 ht hv'.1.1 hv'.1.2.1 hW.2 hT.2 ha hb, G_0_0 hG, G_0_1 hG, G_0_2 hG, G_0_3 hG, G_0_7 hG, G_0_10 hG, G_0_12 hG, G_0_13 hG, G_0_14 hG, G_0_15 hG, G_0_16 hG, G_0_17 hG, G_1_0 hG, G_1_2 hG, G_1_5 hG, G_2_4 hG, G_2_5 hG, G_3_5 hG, G_3_6 hG, G_3_7 hG, G_3_8 hG, G_3_9 hG, G_5_0 hG, G_5_1 hG, G_6_0 hG, G_6_1 hG, G_6_2 hG, G_6_9 hG, G_6_10 hG, G_6_11 hG, G_6_12 hG, G_6_13 hG, G_7_0 hG, G_7_5 hG, G_8_8 hG, G_8_9 hG, G_9_8 hG, G_9_9 hG, G_10_7 hG, G_10_8 hG, G_10_9 hG, G_10_10 hG, G_10_11 hG, G_11_0 hG, G_12_2 hG, G_12_3 hG, G_12_4 hG, G_12_5 hG, G_12_7 hG, G_12_8 hG, G_12_9 hG, G_12_12 hG, G_12_13 hG, G_12_14 hG, G_12_22 hG, G_12_23 hG, G_12_29 hG, G_12_30 hG, G_12_31 hG, G_12_37 hG, G_12_38 hG, G_12_39 hG, G_12_40 hG, G_12_41 hG, G_12_43 hG, G_12_46 hG, G_12_47 hG, G_12_48 hG, G_25 hG, G_26 hG, G_47 hG, G_58 hG, n32_add, n32_mul, n32_lt, n32_le, n32_eq, n32_clamp, n32_inT, n32_div, n32_rem, n32_m1, n32_m1', n32_m1lt, n32_ltm1, n32_10, n32_01, Nat.not_lt_zero, Nat.lt_irrefl, Nat.mul_zero, Nat.zero_mul, Nat.zero_add, Nat.add_zero, Nat.reduceEqDiff, Nat.one_ne_zero, Nat.zero_ne_one, ax_psh_none, ax_psh_some, true_and, and_true, and_false, false_and, not_true_eq_false, not_false_eq_true, true_imp_iff, false_imp_iff, imp_self, or_true, true_or, or_false, false_or, and_self, ite_true, ite_false, if_true, if_false]
          refine c_seekFill (d := d + 35) hB hPI hs (by omega) ht ⟨hP1, hP2⟩ hsum h9 hv hSL ?_
          intro gi1 g1 s' fr1 gf1 hPI1 hs' hS1 hSL1 hF1
          have hG1 := gf1.2.1
          have e64 : gi1 64 0 = gi 64 0 := funext (fun j => fr1 64 0 j rfl)
          have hB1 : BK gi1 g1 Ls nt m (gi1 64 0) := by
            rw [e64]
            obtain ⟨-, -, q3, q4, q5⟩ := hB
            exact ⟨e64, hG1, BooksN_of q3 (fun j _ _ => rfl) (fun s j q => by rcases q with rfl | rfl <;> exact fr1 _ _ _ rfl), ThingsR_of q4 q3.1 (fun j _ => rfl) (fun s a j q => by rcases q with rfl | rfl | rfl <;> exact fr1 _ _ _ rfl), LawsR_of q5 q3.2.1 (fun j _ _ => rfl) (fun s a j q => by rcases q with rfl | rfl | rfl | rfl <;> exact fr1 _ _ _ rfl) gf1⟩
          have k1 : gi1 64 0 796 = n32 nt := (fr1 64 0 796 rfl).trans k796
          have hm1 : ThM gi1 t (Wk (gi 64 0) t) (Tk (gi 64 0) t) (Ok (gi 64 0) t) (bk (gi 64 0) t) := ThM_fr hv'.2.1 (fun j => fr1 64 0 j rfl)
          have hpow : P ^ hoK (gi 64 0) t ≤ 4096 := Nat.le_trans (Nat.pow_le_pow_left hP2 _) (Nat.le_trans (Nat.pow_le_pow_right (by omega) hH6) (by decide))
          have hlen : (lCK (gi 64 0) Ls t P sum).length ≤ 4096 := Nat.le_trans (lC_le _ _ _) hpow
          have ell : (lMK (gi 64 0) Ls t P sum).length = (lCK (gi 64 0) Ls t P sum).length := (lCM_len soK_dep _).symm
          have hk68 := hv'.2.2.2.2.2.1 (cb * Wk (gi 64 0) t + ca) (by omega)
          have e68 : gi1 64 0 (132 * t + (68 + (cb * Wk (gi 64 0) t + ca))) = n32 (hk (gi 64 0) t (cb * Wk (gi 64 0) t + ca)) := (fr1 64 0 _ rfl).trans hk68.2.1
          simp (disch := omega) only [b_S_sure_27, b_S_sure_32, G_0_16 hG1, n32_add, n32_mul, n32_lt, n32_le, n32_eq, n32_clamp, n32_inT, n32_div, n32_rem, n32_m1, n32_m1', n32_m1lt, n32_ltm1, n32_10, n32_01, Nat.not_lt_zero, Nat.lt_irrefl, Nat.mul_zero, Nat.zero_mul, Nat.zero_add, Nat.add_zero, Nat.reduceEqDiff, Nat.one_ne_zero, Nat.zero_ne_one, ax_psh_none, ax_psh_some, true_and, and_true, and_false, false_and, not_true_eq_false, not_false_eq_true, true_imp_iff, false_imp_iff, imp_self, or_true, true_or, or_false, false_or, and_self, ite_true, ite_false, if_true, if_false]
          generalize hcell : cb * Wk (gi 64 0) t + ca = cell at *
          have cof : ∀ (gi2 : GI), (∀ j, gi2 64 0 j = gi1 64 0 j) → ∀ Q', ax_call (d + 49) m_M_cellOf [.inr (.inr (some (12, 0))), .inl (n32 t), .inl (n32 ca), .inl (n32 cb)] (gi2, g1) Q' = Q' (some (.inl (n32 cell))) (gi2, g1) := by
            intro gi2 h2 Q'
            rw [c_M_cellOf (d + 47) gi2 g1 Q' hG1 (by omega : t < 6) ((h2 _).trans hm1.1), hcell]
          have start : ∀ R, ax_call (d + 50) m_M_sure [.inr (.inr (some (12, 0))), .inl (n32 t), .inl (n32 P), .inl (n32 sum), .inl (n32 ca), .inl (n32 cb)] (gi1, g1) R = Runs (d + 49) (m_M_sure, 45, [some (.inr (.inr (some (12, 0)))), some (.inl (n32 t)), some (.inl (n32 P)), some (.inl (n32 sum)), some (.inl (n32 ca)), some (.inl (n32 cb)), none], [.inl (n32 (hk (gi 64 0) t cell))]) (gi1, g1) R := by
            intro R
            simp (disch := omega) only [e_M_sure, b_M_sure_0, b_M_sure_5, b_M_sure_8, b_M_sure_13, b_M_sure_16, b_M_sure_25, b_M_sure_28, b_M_sure_41, c_M_isThing _ _ _ _ hG1, k1, win_sT ht (by omega), c_areParts, if_neg hpp, c_M_isCell _ _ _ _ hG1 (by omega : t < 6) hm1.1 hm1.2.1 hW.2 hT.2 ha hb, cof gi1 (fun _ => rfl), c_M_factOf _ _ _ _ hG1, e68, n32_add, n32_mul, n32_lt, n32_le, n32_eq, n32_clamp, n32_inT, n32_div, n32_rem, n32_m1, n32_m1', n32_m1lt, n32_ltm1, n32_10, n32_01, Nat.not_lt_zero, Nat.lt_irrefl, Nat.mul_zero, Nat.zero_mul, Nat.zero_add, Nat.add_zero, Nat.reduceEqDiff, Nat.one_ne_zero, Nat.zero_ne_one, ax_psh_none, ax_psh_some, true_and, and_true, and_false, false_and, not_true_eq_false, not_false_eq_true, true_imp_iff, false_imp_iff, imp_self, or_true, true_or, or_false, false_or, and_self, ite_true, ite_false, if_true, if_false]
          by_cases hz : hk (gi 64 0) t cell = 1
          · -- a hole
            obtain ⟨i, hi, ei⟩ := hc_of (h := hk (gi 64 0) t) (n := Wk (gi 64 0) t * Tk (gi 64 0) t) (x := cell) (by omega) hz
            have hi : i < hoK (gi 64 0) t := hi
            have ei : hcK (gi 64 0) t i = cell := ei
            have uniq : ∀ k, k < hoK (gi 64 0) t → hcK (gi 64 0) t k = cell → k = i := fun k hk' e => hinj k i hk' hi (e.trans ei.symm)
            rw [c_sureAt (d := d + 48) hG1 hH6 (fun k hk' => by have := (hcm k hk').1; omega) (by omega) (by omega) hF1 (if lCK (gi 64 0) Ls t P sum = [] then -1 else gi1 46 0 i) (fun k hk' e => by rw [uniq k hk' e]) (fun q => absurd ei (q i hi))]
            simp only [b_S_sure_41, ax_psh_none, ax_psh_some, true_and, and_true, and_false, false_and, not_true_eq_false, not_false_eq_true, true_imp_iff, false_imp_iff, imp_self, or_true, true_or, or_false, false_or, and_self, ite_true, ite_false, if_true, if_false]
            rw [start, hz]
            simp (disch := omega) only [b_M_sure_45, b_M_sure_48, n32_add, n32_mul, n32_lt, n32_le, n32_eq, n32_clamp, n32_inT, n32_div, n32_rem, n32_m1, n32_m1', n32_m1lt, n32_ltm1, n32_10, n32_01, Nat.not_lt_zero, Nat.lt_irrefl, Nat.mul_zero, Nat.zero_mul, Nat.zero_add, Nat.add_zero, Nat.reduceEqDiff, Nat.one_ne_zero, Nat.zero_ne_one, ax_psh_none, ax_psh_some, true_and, and_true, and_false, false_and, not_true_eq_false, not_false_eq_true, true_imp_iff, false_imp_iff, imp_self, or_true, true_or, or_false, false_or, and_self, ite_true, ite_false, if_true, if_false]
            refine c_M_fillings (d := d + 1) hB1 ht ⟨hP1, hP2⟩ hsum ?_
            intro gi2 fr2 h78 hSm
            rw [e64] at hSm h78 ⊢
            have e64' : ∀ j, gi2 64 0 j = gi1 64 0 j := fun j => fr2 64 0 j rfl
            have fin : ∀ r, Q (some (.inl r)) (some (.inl r)) (gi2, g1) := fun r => by
              refine hQ r gi2 g1 (Core_s hC (fun s a j q => ?_) gf1 (fun u hu => PaperInv_of (hPI1 u hu) (fun j => fr2 3 u j rfl) (fun a j => fr2 59 a j rfl)) ⟨s', by omega, Stamps_of hS1 (fr2 7 0 4 rfl) (fun j => fr2 39 0 j rfl)⟩) (fun s a j q => ?_) (SL_of hSL1 (fun j => fr2 9 0 j rfl) (fun j => fr2 45 0 j rfl) (fun j => fr2 46 0 j rfl) (fun j => fr2 64 0 j rfl))
              · rw [fr2 s a j (mlMod_no (by omega)), fr1 s a j (cgMod_no (by omega))]
              · rw [fr2 s a j (mlMod_no (by omega)), fr1 s a j (cgMod_no (by omega))]
            simp only [ax_psh_some]
            rw [b_M_sure_55]
            by_cases hnil : lCK (gi 64 0) Ls t P sum = []
            · rw [if_pos hnil]
              refine ⟨fun _ => ?_, fun q => absurd (by rw [ell, hnil]; rfl) q⟩
              rw [b_M_sure_58]
              exact fin _
            · rw [if_neg hnil]
              have hpos : 0 < (lCK (gi 64 0) Ls t P sum).length := List.length_pos_iff.mpr hnil
              refine ⟨fun q => absurd q (by rw [ell, n32_eq (by omega) (by omega)]; omega), fun _ => ?_⟩
              rw [b_M_sure_60]
              have hMnil : lMK (gi 64 0) Ls t P sum ≠ [] := fun q => by
                rw [q] at ell
                simp only [List.length_nil] at ell
                omega
              have e79 : gi2 79 0 i = gi1 46 0 i := by
                refine (SureV_uniq (hF1.2.2.2 i hi hnil) (hSm i hi hMnil) hnil (fun f hf => ?_) (fun f hf => ?_)).symm
                · obtain ⟨f', q1, q2⟩ := lC_M soK_dep hf
                  exact ⟨f', q1, q2 i hi⟩
                · obtain ⟨f', q1, q2⟩ := lM_C soK_dep (fun _ => 0) hf
                  exact ⟨f', q1, q2 i hi⟩
              have key := loop_up (n := i) (P := fun k => Runs (d + 49) (m_M_sure, 63, [some (.inr (.inr (some (12, 0)))), some (.inl (n32 t)), some (.inl (n32 P)), some (.inl (n32 sum)), some (.inl (n32 ca)), some (.inl (n32 cb)), some (.inl (n32 k))], []) (gi2, g1) (fun r' h' => Q (some (.inl (gi1 46 0 i))) r' h')) ?_ ?_
              · exact key 0 (Nat.zero_le _)
              · intro k hk' ih
                have hkH : k < hoK (gi 64 0) t := Nat.lt_trans hk' hi
                have hne : ¬ hcK (gi 64 0) t k = cell := fun e => by
                  have := uniq k hkH e
                  omega
                have hc64 := (hcm k hkH).1
                rw [b_M_sure_63, n32_clamp (by omega), h78 k hkH, cof gi2 e64']
                refine ⟨G_12_37 hG1 0, n32_in (by omega) (by omega), ?_⟩
                simp only [ax_psh_some]
                rw [b_M_sure_79, b_M_sure_82, n32_add]
                exact ⟨fun q => absurd q (by rw [n32_eq (by omega) (by omega)]; exact hne), fun _ => ih⟩
              · rw [b_M_sure_63, n32_clamp (by omega), h78 i hi, cof gi2 e64']
                refine ⟨G_12_37 hG1 0, n32_in (by omega) (by omega), ?_⟩
                simp only [ax_psh_some]
                rw [b_M_sure_79, b_M_sure_88, n32_clamp (by omega), e79]
                refine ⟨fun _ => ⟨G_12_38 hG1 0, n32_in (by omega) (by omega), fin _⟩, fun q => absurd (by rw [show hcK (gi 64 0) t i = cell from ei]) q⟩
          · -- no hole
            have hz0 : hk (gi 64 0) t cell = 0 := by
              have := hk68.2.2
              omega
            rw [c_sureAt (d := d + 48) hG1 hH6 (fun k hk' => by have := (hcm k hk').1; omega) (by omega) (by omega) hF1 (-1) (fun k hk' e => by
              have := (hcm k hk').2
              rw [e] at this
              exact absurd this hz) (fun _ => rfl)]
            simp only [b_S_sure_41, ax_psh_none, ax_psh_some, true_and, and_true, and_false, false_and, not_true_eq_false, not_false_eq_true, true_imp_iff, false_imp_iff, imp_self, or_true, true_or, or_false, false_or, and_self, ite_true, ite_false, if_true, if_false]
            rw [start, hz0]
            simp (disch := omega) only [b_M_sure_45, b_M_sure_58, n32_add, n32_mul, n32_lt, n32_le, n32_eq, n32_clamp, n32_inT, n32_div, n32_rem, n32_m1, n32_m1', n32_m1lt, n32_ltm1, n32_10, n32_01, Nat.not_lt_zero, Nat.lt_irrefl, Nat.mul_zero, Nat.zero_mul, Nat.zero_add, Nat.add_zero, Nat.reduceEqDiff, Nat.one_ne_zero, Nat.zero_ne_one, ax_psh_none, ax_psh_some, true_and, and_true, and_false, false_and, not_true_eq_false, not_false_eq_true, true_imp_iff, false_imp_iff, imp_self, or_true, true_or, or_false, false_or, and_self, ite_true, ite_false, if_true, if_false]
            refine hQ _ gi1 g1 (Core_s hC (fun s a j q => ?_) gf1 hPI1 ⟨s', by omega, hS1⟩) (fun s a j q => ?_) hSL1
            · exact fr1 s a j (cgMod_no (by omega))
            · exact fr1 s a j (cgMod_no (by omega))
        · exact bad (Or.inr hz)
      · exact bad (Or.inl hy)
    · have e1 : ax_call (d + 50) m_S_sure [.inr (.inr (some (0, 0))), .inl (n32 t), .inl y, .inl z, .inl a, .inl b] (gi, g) (fun r h => ax_call (d + 50) m_M_sure [.inr (.inr (some (12, 0))), .inl (n32 t), .inl y, .inl z, .inl a, .inl b] h (fun r' h' => Q r r' h')) = ax_call (d + 50) m_M_sure [.inr (.inr (some (12, 0))), .inl (n32 t), .inl y, .inl z, .inl a, .inl b] (gi, g) (fun r' h' => Q (some (.inl (-1))) r' h') := by
        simp (disch := omega) only [e_S_sure, b_S_sure_0, b_S_sure_12, b_S_sure_30, c_Books_cellOf_n _ _ _ _ hG b1 n6 ht hv'.1.1 hv'.1.2.1 hxy, G_0_0 hG, G_0_1 hG, G_0_2 hG, G_0_3 hG, G_0_7 hG, G_0_10 hG, G_0_12 hG, G_0_13 hG, G_0_14 hG, G_0_15 hG, G_0_16 hG, G_0_17 hG, G_1_0 hG, G_1_2 hG, G_1_5 hG, G_2_4 hG, G_2_5 hG, G_3_5 hG, G_3_6 hG, G_3_7 hG, G_3_8 hG, G_3_9 hG, G_5_0 hG, G_5_1 hG, G_6_0 hG, G_6_1 hG, G_6_2 hG, G_6_9 hG, G_6_10 hG, G_6_11 hG, G_6_12 hG, G_6_13 hG, G_7_0 hG, G_7_5 hG, G_8_8 hG, G_8_9 hG, G_9_8 hG, G_9_9 hG, G_10_7 hG, G_10_8 hG, G_10_9 hG, G_10_10 hG, G_10_11 hG, G_11_0 hG, G_12_2 hG, G_12_3 hG, G_12_4 hG, G_12_5 hG, G_12_7 hG, G_12_8 hG, G_12_9 hG, G_12_12 hG, G_12_13 hG, G_12_14 hG, G_12_22 hG, G_12_23 hG, G_12_29 hG, G_12_30 hG, G_12_31 hG, G_12_37 hG, G_12_38 hG, G_12_39 hG, G_12_40 hG, G_12_41 hG, G_12_43 hG, G_12_46 hG, G_12_47 hG, G_12_48 hG, G_25 hG, G_26 hG, G_47 hG, G_58 hG, n32_add, n32_mul, n32_lt, n32_le, n32_eq, n32_clamp, n32_inT, n32_div, n32_rem, n32_m1, n32_m1', n32_m1lt, n32_ltm1, n32_10, n32_01, Nat.not_lt_zero, Nat.lt_irrefl, Nat.mul_zero, Nat.zero_mul, Nat.zero_add, Nat.add_zero, Nat.reduceEqDiff, Nat.one_ne_zero, Nat.zero_ne_one, ax_psh_none, ax_psh_some, true_and, and_true, and_false, false_and, not_true_eq_false, not_false_eq_true, true_imp_iff, false_imp_iff, imp_self, or_true, true_or, or_false, false_or, and_self, ite_true, ite_false, if_true, if_false]
      rw [e1]
      by_cases hpp : win y (n32 2) (n32 4) = n32 0 ∨ win z (n32 0) (n32 9999) = n32 0
      · simp (disch := omega) only [e_M_sure, b_M_sure_0, b_M_sure_5, b_M_sure_8, b_M_sure_13, b_M_sure_58, c_M_isThing _ _ _ _ hG, k796, win_sT ht (by omega), c_areParts, if_pos hpp, n32_add, n32_mul, n32_lt, n32_le, n32_eq, n32_clamp, n32_inT, n32_div, n32_rem, n32_m1, n32_m1', n32_m1lt, n32_ltm1, n32_10, n32_01, Nat.not_lt_zero, Nat.lt_irrefl, Nat.mul_zero, Nat.zero_mul, Nat.zero_add, Nat.add_zero, Nat.reduceEqDiff, Nat.one_ne_zero, Nat.zero_ne_one, ax_psh_none, ax_psh_some, true_and, and_true, and_false, false_and, not_true_eq_false, not_false_eq_true, true_imp_iff, false_imp_iff, imp_self, or_true, true_or, or_false, false_or, and_self, ite_true, ite_false, if_true, if_false]
        exact same
      · simp (disch := omega) only [e_M_sure, b_M_sure_0, b_M_sure_5, b_M_sure_8, b_M_sure_13, b_M_sure_16, b_M_sure_25, b_M_sure_58, c_M_isThing _ _ _ _ hG, k796, win_sT ht (by omega), c_areParts, if_neg hpp, c_M_isCell_n _ _ _ _ hG (by omega : t < 6) hv'.2.1.1 hv'.2.1.2.1 hxy, n32_add, n32_mul, n32_lt, n32_le, n32_eq, n32_clamp, n32_inT, n32_div, n32_rem, n32_m1, n32_m1', n32_m1lt, n32_ltm1, n32_10, n32_01, Nat.not_lt_zero, Nat.lt_irrefl, Nat.mul_zero, Nat.zero_mul, Nat.zero_add, Nat.add_zero, Nat.reduceEqDiff, Nat.one_ne_zero, Nat.zero_ne_one, ax_psh_none, ax_psh_some, true_and, and_true, and_false, false_and, not_true_eq_false, not_false_eq_true, true_imp_iff, false_imp_iff, imp_self, or_true, true_or, or_false, false_or, and_self, ite_true, ite_false, if_true, if_false]
        exact same
  · simp (disch := omega) only [e_S_sure, b_S_sure_0, b_S_sure_12, b_S_sure_30, c_Books_cellOf_t _ _ _ _ hG b1 hx, e_M_sure, b_M_sure_0, b_M_sure_5, b_M_sure_58, c_M_isThing _ _ _ _ hG, k796, hx, G_0_0 hG, G_0_1 hG, G_0_2 hG, G_0_3 hG, G_0_7 hG, G_0_10 hG, G_0_12 hG, G_0_13 hG, G_0_14 hG, G_0_15 hG, G_0_16 hG, G_0_17 hG, G_1_0 hG, G_1_2 hG, G_1_5 hG, G_2_4 hG, G_2_5 hG, G_3_5 hG, G_3_6 hG, G_3_7 hG, G_3_8 hG, G_3_9 hG, G_5_0 hG, G_5_1 hG, G_6_0 hG, G_6_1 hG, G_6_2 hG, G_6_9 hG, G_6_10 hG, G_6_11 hG, G_6_12 hG, G_6_13 hG, G_7_0 hG, G_7_5 hG, G_8_8 hG, G_8_9 hG, G_9_8 hG, G_9_9 hG, G_10_7 hG, G_10_8 hG, G_10_9 hG, G_10_10 hG, G_10_11 hG, G_11_0 hG, G_12_2 hG, G_12_3 hG, G_12_4 hG, G_12_5 hG, G_12_7 hG, G_12_8 hG, G_12_9 hG, G_12_12 hG, G_12_13 hG, G_12_14 hG, G_12_22 hG, G_12_23 hG, G_12_29 hG, G_12_30 hG, G_12_31 hG, G_12_37 hG, G_12_38 hG, G_12_39 hG, G_12_40 hG, G_12_41 hG, G_12_43 hG, G_12_46 hG, G_12_47 hG, G_12_48 hG, G_25 hG, G_26 hG, G_47 hG, G_58 hG, n32_add, n32_mul, n32_lt, n32_le, n32_eq, n32_clamp, n32_inT, n32_div, n32_rem, n32_m1, n32_m1', n32_m1lt, n32_ltm1, n32_10, n32_01, Nat.not_lt_zero, Nat.lt_irrefl, Nat.mul_zero, Nat.zero_mul, Nat.zero_add, Nat.add_zero, Nat.reduceEqDiff, Nat.one_ne_zero, Nat.zero_ne_one, ax_psh_none, ax_psh_some, true_and, and_true, and_false, false_and, not_true_eq_false, not_false_eq_true, true_imp_iff, false_imp_iff, imp_self, or_true, true_or, or_false, false_or, and_self, ite_true, ite_false, if_true, if_false]
    exact same
