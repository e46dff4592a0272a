/-! the reference's constructor -/
theorem ST_wIn {F : Nat → Nat → Nat → AR} {gi0 gi : GI} {g0 g : AG} {c w s a k : Nat} {v : Int32} (h : ST F gi0 g0 c w gi g) (ha : g0.2.1 s ≤ a) (hv : v = 0 ∨ DZ s k) : ST F gi0 g0 c w (ax_wI gi s a k v) g := by
  obtain ⟨h1, h2, h3, h4⟩ := h
  refine ⟨fun t b j hb hs => ⟨?_, (h1 t b j hb hs).2⟩, h2, fun t b j ht hd => ?_, h4⟩
  · rw [wI_at, if_neg (fun q => by
      obtain ⟨q1, q2, -⟩ := q
      subst q1
      omega)]
    exact (h1 t b j hb hs).1
  · rw [wI_at]
    by_cases q : t = s ∧ b = a ∧ j = k
    · rw [if_pos q]
      rcases hv with hv | hv
      · exact hv
      · rw [q.1, q.2.2] at hd
        exact absurd hv hd
    · rw [if_neg q]
      exact h3 t b j ht hd
def wrL (gi : GI) : List Nat → Nat → GI
  | [], _ => gi
  | v :: l, k => wrL (ax_wI gi 67 0 k (n32 v)) l (k + 1)
theorem wrL_at : ∀ (l : List Nat) (gi : GI) (k s a j : Nat), wrL gi l k s a j = if s = 67 ∧ a = 0 ∧ k ≤ j ∧ j < k + l.length then n32 (l.getD (j - k) 0) else gi s a j
  | [], gi, k, s, a, j => by
    show gi s a j = _
    rw [if_neg (fun q => by
      obtain ⟨-, -, q1, q2⟩ := q
      have q2 : j < k + 0 := q2
      omega)]
  | v :: l, gi, k, s, a, j => by
    show wrL (ax_wI gi 67 0 k (n32 v)) l (k + 1) s a j = _
    rw [wrL_at l, List.length_cons]
    by_cases q : s = 67 ∧ a = 0 ∧ k + 1 ≤ j ∧ j < k + 1 + l.length
    · rw [if_pos q, if_pos (by omega), show j - k = (j - (k + 1)) + 1 by omega]
      rfl
    · rw [if_neg q, wI_at]
      by_cases q2 : s = 67 ∧ a = 0 ∧ j = k
      · rw [if_pos q2, if_pos (by omega), show j - k = 0 by omega]
        rfl
      · rw [if_neg q2, if_neg (by omega)]
theorem ST_wrL {F : Nat → Nat → Nat → AR} {gi0 : GI} {g0 g : AG} {c w : Nat} (h0 : g0.2.1 67 ≤ 0) : ∀ (l : List Nat) (gi : GI) (k : Nat), ST F gi0 g0 c w gi g → ST F gi0 g0 c w (wrL gi l k) g
  | [], _, _, h => h
  | v :: l, gi, k, h => ST_wrL h0 l _ (k + 1) (ST_wIn (k := k) (v := n32 v) h h0 (Or.inr (by unfold DZ; omega)))
def wdG (gi : GI) : GI := wrL gi wbs 0
theorem wdG_at (gi : GI) (j : Nat) (hj : j < 65) : wdG gi 67 0 j = n32 (wbs.getD j 0) := by
  unfold wdG
  rw [wrL_at, if_pos ⟨rfl, rfl, Nat.zero_le _, by rw [show wbs.length = 65 from rfl]; omega⟩]
  rfl
theorem ST_wdG {F : Nat → Nat → Nat → AR} {gi0 gi : GI} {g0 g : AG} {c w : Nat} (h : ST F gi0 g0 c w gi g) (h0 : g0.2.1 67 ≤ 0) : ST F gi0 g0 c w (wdG gi) g := ST_wrL h0 wbs gi 0 h
theorem by_32 : (n32 32).toInt8.toInt32 = n32 32 := by decide
theorem by_97 : (n32 97).toInt8.toInt32 = n32 97 := by decide
theorem by_100 : (n32 100).toInt8.toInt32 = n32 100 := by decide
theorem by_101 : (n32 101).toInt8.toInt32 = n32 101 := by decide
theorem by_102 : (n32 102).toInt8.toInt32 = n32 102 := by decide
theorem by_105 : (n32 105).toInt8.toInt32 = n32 105 := by decide
theorem by_107 : (n32 107).toInt8.toInt32 = n32 107 := by decide
theorem by_108 : (n32 108).toInt8.toInt32 = n32 108 := by decide
theorem by_110 : (n32 110).toInt8.toInt32 = n32 110 := by decide
theorem by_111 : (n32 111).toInt8.toInt32 = n32 111 := by decide
theorem by_112 : (n32 112).toInt8.toInt32 = n32 112 := by decide
theorem by_114 : (n32 114).toInt8.toInt32 = n32 114 := by decide
theorem by_115 : (n32 115).toInt8.toInt32 = n32 115 := by decide
theorem by_116 : (n32 116).toInt8.toInt32 = n32 116 := by decide
theorem by_119 : (n32 119).toInt8.toInt32 = n32 119 := by decide
theorem by_120 : (n32 120).toInt8.toInt32 = n32 120 := by decide
theorem by_121 : (n32 121).toInt8.toInt32 = n32 121 := by decide
theorem cn_0 : (n32 0).toNatClampNeg = 0 := by decide
theorem cn_1 : (n32 1).toNatClampNeg = 1 := by decide
theorem cn_2 : (n32 2).toNatClampNeg = 2 := by decide
theorem cn_3 : (n32 3).toNatClampNeg = 3 := by decide
theorem cn_4 : (n32 4).toNatClampNeg = 4 := by decide
theorem cn_5 : (n32 5).toNatClampNeg = 5 := by decide
theorem cn_6 : (n32 6).toNatClampNeg = 6 := by decide
theorem cn_7 : (n32 7).toNatClampNeg = 7 := by decide
theorem cn_8 : (n32 8).toNatClampNeg = 8 := by decide
theorem cn_9 : (n32 9).toNatClampNeg = 9 := by decide
theorem cn_10 : (n32 10).toNatClampNeg = 10 := by decide
theorem cn_11 : (n32 11).toNatClampNeg = 11 := by decide
theorem cn_12 : (n32 12).toNatClampNeg = 12 := by decide
theorem cn_13 : (n32 13).toNatClampNeg = 13 := by decide
theorem cn_14 : (n32 14).toNatClampNeg = 14 := by decide
theorem cn_15 : (n32 15).toNatClampNeg = 15 := by decide
theorem cn_16 : (n32 16).toNatClampNeg = 16 := by decide
theorem cn_17 : (n32 17).toNatClampNeg = 17 := by decide
theorem cn_18 : (n32 18).toNatClampNeg = 18 := by decide
theorem cn_19 : (n32 19).toNatClampNeg = 19 := by decide
theorem cn_20 : (n32 20).toNatClampNeg = 20 := by decide
theorem cn_21 : (n32 21).toNatClampNeg = 21 := by decide
theorem cn_22 : (n32 22).toNatClampNeg = 22 := by decide
theorem cn_23 : (n32 23).toNatClampNeg = 23 := by decide
theorem cn_24 : (n32 24).toNatClampNeg = 24 := by decide
theorem cn_25 : (n32 25).toNatClampNeg = 25 := by decide
theorem cn_26 : (n32 26).toNatClampNeg = 26 := by decide
theorem cn_27 : (n32 27).toNatClampNeg = 27 := by decide
theorem cn_28 : (n32 28).toNatClampNeg = 28 := by decide
theorem cn_29 : (n32 29).toNatClampNeg = 29 := by decide
theorem cn_30 : (n32 30).toNatClampNeg = 30 := by decide
theorem cn_31 : (n32 31).toNatClampNeg = 31 := by decide
theorem cn_32 : (n32 32).toNatClampNeg = 32 := by decide
theorem cn_33 : (n32 33).toNatClampNeg = 33 := by decide
theorem cn_34 : (n32 34).toNatClampNeg = 34 := by decide
theorem cn_35 : (n32 35).toNatClampNeg = 35 := by decide
theorem cn_36 : (n32 36).toNatClampNeg = 36 := by decide
theorem cn_37 : (n32 37).toNatClampNeg = 37 := by decide
theorem cn_38 : (n32 38).toNatClampNeg = 38 := by decide
theorem cn_39 : (n32 39).toNatClampNeg = 39 := by decide
theorem cn_40 : (n32 40).toNatClampNeg = 40 := by decide
theorem cn_41 : (n32 41).toNatClampNeg = 41 := by decide
theorem cn_42 : (n32 42).toNatClampNeg = 42 := by decide
theorem cn_43 : (n32 43).toNatClampNeg = 43 := by decide
theorem cn_44 : (n32 44).toNatClampNeg = 44 := by decide
theorem cn_45 : (n32 45).toNatClampNeg = 45 := by decide
theorem cn_46 : (n32 46).toNatClampNeg = 46 := by decide
theorem cn_47 : (n32 47).toNatClampNeg = 47 := by decide
theorem cn_48 : (n32 48).toNatClampNeg = 48 := by decide
theorem cn_49 : (n32 49).toNatClampNeg = 49 := by decide
theorem cn_50 : (n32 50).toNatClampNeg = 50 := by decide
theorem cn_51 : (n32 51).toNatClampNeg = 51 := by decide
theorem cn_52 : (n32 52).toNatClampNeg = 52 := by decide
theorem cn_53 : (n32 53).toNatClampNeg = 53 := by decide
theorem cn_54 : (n32 54).toNatClampNeg = 54 := by decide
theorem cn_55 : (n32 55).toNatClampNeg = 55 := by decide
theorem cn_56 : (n32 56).toNatClampNeg = 56 := by decide
theorem cn_57 : (n32 57).toNatClampNeg = 57 := by decide
theorem cn_58 : (n32 58).toNatClampNeg = 58 := by decide
theorem cn_59 : (n32 59).toNatClampNeg = 59 := by decide
theorem cn_60 : (n32 60).toNatClampNeg = 60 := by decide
theorem cn_61 : (n32 61).toNatClampNeg = 61 := by decide
theorem cn_62 : (n32 62).toNatClampNeg = 62 := by decide
theorem cn_63 : (n32 63).toNatClampNeg = 63 := by decide
theorem cn_64 : (n32 64).toNatClampNeg = 64 := by decide
theorem wdG_eq (gi : GI) : (ax_wI (ax_wI (ax_wI (ax_wI (ax_wI (ax_wI (ax_wI (ax_wI (ax_wI (ax_wI (ax_wI (ax_wI (ax_wI (ax_wI (ax_wI (ax_wI (ax_wI (ax_wI (ax_wI (ax_wI (ax_wI (ax_wI (ax_wI (ax_wI (ax_wI (ax_wI (ax_wI (ax_wI (ax_wI (ax_wI (ax_wI (ax_wI (ax_wI (ax_wI (ax_wI (ax_wI (ax_wI (ax_wI (ax_wI (ax_wI (ax_wI (ax_wI (ax_wI (ax_wI (ax_wI (ax_wI (ax_wI (ax_wI (ax_wI (ax_wI (ax_wI (ax_wI (ax_wI (ax_wI (ax_wI (ax_wI (ax_wI (ax_wI (ax_wI (ax_wI (ax_wI (ax_wI (ax_wI (ax_wI (ax_wI gi 67 0 (n32 0).toNatClampNeg ((n32 116).toInt8.toInt32)) 67 0 (n32 1).toNatClampNeg ((n32 97).toInt8.toInt32)) 67 0 (n32 2).toNatClampNeg ((n32 120).toInt8.toInt32)) 67 0 (n32 3).toNatClampNeg ((n32 32).toInt8.toInt32)) 67 0 (n32 4).toNatClampNeg ((n32 115).toInt8.toInt32)) 67 0 (n32 5).toNatClampNeg ((n32 112).toInt8.toInt32)) 67 0 (n32 6).toNatClampNeg ((n32 97).toInt8.toInt32)) 67 0 (n32 7).toNatClampNeg ((n32 114).toInt8.toInt32)) 67 0 (n32 8).toNatClampNeg ((n32 101).toInt8.toInt32)) 67 0 (n32 9).toNatClampNeg ((n32 115).toInt8.toInt32)) 67 0 (n32 10).toNatClampNeg ((n32 32).toInt8.toInt32)) 67 0 (n32 11).toNatClampNeg ((n32 105).toInt8.toInt32)) 67 0 (n32 12).toNatClampNeg ((n32 102).toInt8.toInt32)) 67 0 (n32 13).toNatClampNeg ((n32 32).toInt8.toInt32)) 67 0 (n32 14).toNatClampNeg ((n32 111).toInt8.toInt32)) 67 0 (n32 15).toNatClampNeg ((n32 114).toInt8.toInt32)) 67 0 (n32 16).toNatClampNeg ((n32 32).toInt8.toInt32)) 67 0 (n32 17).toNatClampNeg ((n32 97).toInt8.toInt32)) 67 0 (n32 18).toNatClampNeg ((n32 110).toInt8.toInt32)) 67 0 (n32 19).toNatClampNeg ((n32 100).toInt8.toInt32)) 67 0 (n32 20).toNatClampNeg ((n32 32).toInt8.toInt32)) 67 0 (n32 21).toNatClampNeg ((n32 110).toInt8.toInt32)) 67 0 (n32 22).toNatClampNeg ((n32 111).toInt8.toInt32)) 67 0 (n32 23).toNatClampNeg ((n32 116).toInt8.toInt32)) 67 0 (n32 24).toNatClampNeg ((n32 32).toInt8.toInt32)) 67 0 (n32 25).toNatClampNeg ((n32 108).toInt8.toInt32)) 67 0 (n32 26).toNatClampNeg ((n32 105).toInt8.toInt32)) 67 0 (n32 27).toNatClampNeg ((n32 107).toInt8.toInt32)) 67 0 (n32 28).toNatClampNeg ((n32 101).toInt8.toInt32)) 67 0 (n32 29).toNatClampNeg ((n32 32).toInt8.toInt32)) 67 0 (n32 30).toNatClampNeg ((n32 111).toInt8.toInt32)) 67 0 (n32 31).toNatClampNeg ((n32 102).toInt8.toInt32)) 67 0 (n32 32).toNatClampNeg ((n32 102).toInt8.toInt32)) 67 0 (n32 33).toNatClampNeg ((n32 32).toInt8.toInt32)) 67 0 (n32 34).toNatClampNeg ((n32 119).toInt8.toInt32)) 67 0 (n32 35).toNatClampNeg ((n32 105).toInt8.toInt32)) 67 0 (n32 36).toNatClampNeg ((n32 100).toInt8.toInt32)) 67 0 (n32 37).toNatClampNeg ((n32 101).toInt8.toInt32)) 67 0 (n32 38).toNatClampNeg ((n32 32).toInt8.toInt32)) 67 0 (n32 39).toNatClampNeg ((n32 116).toInt8.toInt32)) 67 0 (n32 40).toNatClampNeg ((n32 97).toInt8.toInt32)) 67 0 (n32 41).toNatClampNeg ((n32 108).toInt8.toInt32)) 67 0 (n32 42).toNatClampNeg ((n32 108).toInt8.toInt32)) 67 0 (n32 43).toNatClampNeg ((n32 32).toInt8.toInt32)) 67 0 (n32 44).toNatClampNeg ((n32 97).toInt8.toInt32)) 67 0 (n32 45).toNatClampNeg ((n32 114).toInt8.toInt32)) 67 0 (n32 46).toNatClampNeg ((n32 101).toInt8.toInt32)) 67 0 (n32 47).toNatClampNeg ((n32 97).toInt8.toInt32)) 67 0 (n32 48).toNatClampNeg ((n32 32).toInt8.toInt32)) 67 0 (n32 49).toNatClampNeg ((n32 111).toInt8.toInt32)) 67 0 (n32 50).toNatClampNeg ((n32 119).toInt8.toInt32)) 67 0 (n32 51).toNatClampNeg ((n32 110).toInt8.toInt32)) 67 0 (n32 52).toNatClampNeg ((n32 101).toInt8.toInt32)) 67 0 (n32 53).toNatClampNeg ((n32 114).toInt8.toInt32)) 67 0 (n32 54).toNatClampNeg ((n32 32).toInt8.toInt32)) 67 0 (n32 55).toNatClampNeg ((n32 100).toInt8.toInt32)) 67 0 (n32 56).toNatClampNeg ((n32 97).toInt8.toInt32)) 67 0 (n32 57).toNatClampNeg ((n32 121).toInt8.toInt32)) 67 0 (n32 58).toNatClampNeg ((n32 32).toInt8.toInt32)) 67 0 (n32 59).toNatClampNeg ((n32 112).toInt8.toInt32)) 67 0 (n32 60).toNatClampNeg ((n32 97).toInt8.toInt32)) 67 0 (n32 61).toNatClampNeg ((n32 114).toInt8.toInt32)) 67 0 (n32 62).toNatClampNeg ((n32 116).toInt8.toInt32)) 67 0 (n32 63).toNatClampNeg ((n32 115).toInt8.toInt32)) 67 0 (n32 64).toNatClampNeg ((n32 32).toInt8.toInt32)) = wdG gi := by
  rw [by_32, by_97, by_100, by_101, by_102, by_105, by_107, by_108, by_110, by_111, by_112, by_114, by_115, by_116, by_119, by_120, by_121, cn_0, cn_1, cn_2, cn_3, cn_4, cn_5, cn_6, cn_7, cn_8, cn_9, cn_10, cn_11, cn_12, cn_13, cn_14, cn_15, cn_16, cn_17, cn_18, cn_19, cn_20, cn_21, cn_22, cn_23, cn_24, cn_25, cn_26, cn_27, cn_28, cn_29, cn_30, cn_31, cn_32, cn_33, cn_34, cn_35, cn_36, cn_37, cn_38, cn_39, cn_40, cn_41, cn_42, cn_43, cn_44, cn_45, cn_46, cn_47, cn_48, cn_49, cn_50, cn_51, cn_52, cn_53, cn_54, cn_55, cn_56, cn_57, cn_58, cn_59, cn_60, cn_61, cn_62, cn_63, cn_64]
  unfold wdG wbs
  rw [wrL, wrL, wrL, wrL, wrL, wrL, wrL, wrL, wrL, wrL, wrL, wrL, wrL, wrL, wrL, wrL, wrL, wrL, wrL, wrL, wrL, wrL, wrL, wrL, wrL, wrL, wrL, wrL, wrL, wrL, wrL, wrL, wrL, wrL, wrL, wrL, wrL, wrL, wrL, wrL, wrL, wrL, wrL, wrL, wrL, wrL, wrL, wrL, wrL, wrL, wrL, wrL, wrL, wrL, wrL, wrL, wrL, wrL, wrL, wrL, wrL, wrL, wrL, wrL, wrL, wrL]
