/-! what is owed, by the reference; its forms -/
def LawM (gi : GI) (L : Option (List PC)) : Prop := (gi 12 0 27 = -1 ∧ L = none) ∨ ∃ l l', gi 12 0 27 = n32 l ∧ l < 6 ∧ KLaw (gi 64 0) l l' ∧ L = some l'
theorem KLaw_eq {K K' : Nat → Int32} {l : Nat} {L : List PC} (h : KLaw K l L) (e : ∀ j, K' j = K j) : KLaw K' l L := by
  have : K' = K := funext e
  rw [this]
  exact h
theorem LawM_fr {gi gi' : GI} {L : Option (List PC)} (h : LawM gi L) (h27 : gi' 12 0 27 = gi 12 0 27) (h64 : ∀ j, gi' 64 0 j = gi 64 0 j) : LawM gi' L := by
  rcases h with ⟨a, b⟩ | ⟨l, l', a, b, c, e⟩
  · exact Or.inl ⟨h27.trans a, b⟩
  · exact Or.inr ⟨l, l', h27.trans a, b, KLaw_eq c h64, e⟩
/-- the tax as the reference tells it -/
theorem c_M_tax {D : Nat} {gi : GI} {g : AG} {Q : Option AV → AH → Prop} (hD : 44 ≤ D) (hG : GOK g) {t W T O dy like off : Nat} {b : Nat → Nat} {L : Option (List PC)} (h : Laid gi t W T b) (hO : gi 64 0 (132 * t + 2) = n32 O) (hO5 : O ≤ 5) (hdy : gi 12 0 28 = n32 dy) (hdy2 : dy ≤ 1000) (hL : LawM gi L) (hlike : like ≤ 5) (hoff : off ≤ 64)
    (hq : ∀ gi', Fr taxMod gi gi' → Q (some (.inl (n32 (txO L (envF like off W T O dy (ptsF (W * T) b)))))) (gi', g)) :
    ax_call D m_M_taxOf [.inr (.inr (some (12, 0))), .inl (n32 like), .inl (n32 off)] (gi, g) Q := by
  rcases hL with ⟨h27, rfl⟩ | ⟨l, l', h27, hl6, hK, rfl⟩
  · obtain ⟨d, rfl⟩ : ∃ d2, D = d2 + 1 := ⟨D - 1, by omega⟩
    rw [c_M_taxOf_n _ hG h27]
    exact hq gi (Fr_refl _ _)
  · exact c_M_taxOf hD hG h hO hO5 hdy hdy2 h27 hl6 hK hlike hoff hq
theorem Laid_tax {gi gi' : GI} {t W T : Nat} {b : Nat → Nat} (h : Laid gi t W T b) (hf : Fr taxMod gi gi') : Laid gi' t W T b := by
  obtain ⟨a1, a2, a3, a4, a5, a6, a7⟩ := h
  exact ⟨(hf 12 0 24 rfl).trans a1, (hf 12 0 25 rfl).trans a2, (hf 12 0 26 rfl).trans a3, a4, a5, a6, fun c hc => ⟨(hf 74 0 c rfl).trans (a7 c hc).1, (a7 c hc).2⟩⟩
theorem sumN_cut {f : Nat → Nat} {m : Nat} : ∀ {n : Nat}, m ≤ n → sumN (fun i => if i < m then f i else 0) n = sumN f m
  | 0, h => by
    have : m = 0 := by omega
    subst this
    rfl
  | n + 1, h => by
    by_cases e : m = n + 1
    · subst e
      exact sumN_congr (fun i hi => if_pos hi)
    · rw [sumN_succ, sumN_cut (by omega), if_neg (by omega), Nat.add_zero]
theorem c_M_owesNow {D : Nat} {gi : GI} {g : AG} {Q : Option AV → AH → Prop} (hD : 46 ≤ D) (hG : GOK g) {t W T O dy sl : Nat} {b : Nat → Nat} {L : Option (List PC)} (h : Laid gi t W T b) (hW1 : 1 ≤ W) (hT1 : 1 ≤ T) (hO : gi 64 0 (132 * t + 2) = n32 O) (hO5 : O ≤ 5) (hdy : gi 12 0 28 = n32 dy) (hdy2 : dy ≤ 1000) (hL : LawM gi L) (hsl : gi 64 0 792 = n32 sl) (bs : sl ≤ 1000)
    (hq : ∀ gi', Fr taxMod gi gi' → Q (some (.inl (n32 (owesF L W T O dy sl b)))) (gi', g)) :
    ax_call D m_M_owesNow [.inr (.inr (some (12, 0)))] (gi, g) Q := by
  obtain ⟨d, rfl⟩ : ∃ d2, D = d2 + 4 := ⟨D - 4, by omega⟩
  have lk := likes_36 W T
  have h64 := wt64 h.2.2.2.1 h.2.2.2.2.1
  have key := loop_up (n := 6) (P := fun i => ∀ (gi1 : GI) o3, Fr taxMod gi gi1 → Runs (d + 3) (m_M_owesNow, 4, [some (.inr (.inr (some (12, 0)))), some (.inl (n32 (sumN (fun l => if l < likes W T then (if offF W T b l ≤ sl then txO L (envF l (offF W T b l) W T O dy (ptsF (W * T) b)) else 0) else 0) i))), some (.inl (n32 i)), o3], []) (gi1, g) Q) ?_ ?_
  · rw [e_M_owesNow, b_M_owesNow_0]
    exact key 0 (by omega) gi _ (Fr_refl _ _)
  · intro i hi ih gi1 o3 fr
    have hl1 := Laid_tax h fr
    rw [b_M_owesNow_4]
    by_cases hlk : i < likes W T
    · have hol := off_le W T b i
      have e792 : gi1 64 0 792 = n32 sl := (fr 64 0 792 rfl).trans hsl
      have ewin : ¬ win (n32 i) (n32 0) (n32 (likes W T) - n32 1) = n32 0 := win_subin hlk (by omega)
      have c792 : (n32 792).toNatClampNeg = 792 := by decide
      simp (disch := omega) only [b_M_owesNow_10, b_M_owesNow_15, b_M_owesNow_21, hi, c_M_isLike _ _ _ _ hl1.2.1 hl1.2.2.1 hl1.2.2.2.1 hl1.2.2.2.2.1, ewin, c_M_offOf _ hG hl1 hW1 hT1 hlk, n32_add, n32_mul, n32_lt, n32_le, n32_eq, n32_clamp, n32_inT, n32_div, n32_rem, n32_m1, n32_m1', n32_m1lt, n32_ltm1, n32_10, n32_01, Nat.not_lt_zero, Nat.lt_irrefl, Nat.mul_zero, Nat.zero_mul, Nat.zero_add, Nat.add_zero, Nat.reduceEqDiff, Nat.one_ne_zero, Nat.zero_ne_one, ax_psh_none, ax_psh_some, true_and, and_true, and_false, false_and, not_true_eq_false, not_false_eq_true, true_imp_iff, false_imp_iff, imp_self, or_true, true_or, or_false, false_or, and_self, ite_true, ite_false, if_true, if_false]
      rw [b_M_owesNow_26, c792, e792]
      refine ⟨G_12_3 hG 0, n32_in (by omega) (by omega), fun z => ?_, fun z => ?_⟩
      · rw [n32_lt (by omega) (by omega)] at z
        simp only [b_M_owesNow_49, b_M_owesNow_50, b_M_owesNow_52, n32_add]
        have := ih gi1 (some (.inl (n32 (offF W T b i)))) fr
        rw [sumN_succ, if_pos hlk, if_neg (by omega)] at this
        exact this
      · rw [n32_lt (by omega) (by omega)] at z
        rw [b_M_owesNow_40]
        refine c_M_tax (D := d + 3) (by omega) hG hl1 ((fr 64 0 _ rfl).trans hO) hO5 ((fr 12 0 28 rfl).trans hdy) hdy2 (LawM_fr hL (fr 12 0 27 rfl) (fun j => fr 64 0 j rfl)) (by omega) (by omega) ?_
        intro gi2 fr2
        simp only [b_M_owesNow_46, b_M_owesNow_50, b_M_owesNow_52, n32_add, ax_psh_none, ax_psh_some, true_and, and_true, and_false, false_and, not_true_eq_false, not_false_eq_true, true_imp_iff, false_imp_iff, imp_self, or_true, true_or, or_false, false_or, and_self, ite_true, ite_false, if_true, if_false]
        have := ih gi2 (some (.inl (n32 (offF W T b i)))) (Fr_trans fr fr2)
        rw [sumN_succ, if_pos hlk, if_pos (by omega)] at this
        exact this
    · have ewin : win (n32 i) (n32 0) (n32 (likes W T) - n32 1) = n32 0 := by
        rw [likes_sub, win_in (by omega) (by omega) (by omega)]
        omega
      simp (disch := omega) only [b_M_owesNow_10, b_M_owesNow_15, b_M_owesNow_18, b_M_owesNow_52, hi, c_M_isLike _ _ _ _ hl1.2.1 hl1.2.2.1 hl1.2.2.2.1 hl1.2.2.2.2.1, ewin, n32_add, n32_mul, n32_lt, n32_le, n32_eq, n32_clamp, n32_inT, n32_div, n32_rem, n32_m1, n32_m1', n32_m1lt, n32_ltm1, n32_10, n32_01, Nat.not_lt_zero, Nat.lt_irrefl, Nat.mul_zero, Nat.zero_mul, Nat.zero_add, Nat.add_zero, Nat.reduceEqDiff, Nat.one_ne_zero, Nat.zero_ne_one, ax_psh_none, ax_psh_some, true_and, and_true, and_false, false_and, not_true_eq_false, not_false_eq_true, true_imp_iff, false_imp_iff, imp_self, or_true, true_or, or_false, false_or, and_self, ite_true, ite_false, if_true, if_false]
      have := ih gi1 o3 fr
      rw [sumN_succ, if_neg hlk] at this
      exact this
  · intro gi1 o3 fr
    rw [b_M_owesNow_4]
    simp (disch := omega) only [b_M_owesNow_58, n32_add, n32_mul, n32_lt, n32_le, n32_eq, n32_clamp, n32_inT, n32_div, n32_rem, n32_m1, n32_m1', n32_m1lt, n32_ltm1, n32_10, n32_01, Nat.not_lt_zero, Nat.lt_irrefl, Nat.mul_zero, Nat.zero_mul, Nat.zero_add, Nat.add_zero, Nat.reduceEqDiff, Nat.one_ne_zero, Nat.zero_ne_one, ax_psh_none, ax_psh_some, true_and, and_true, and_false, false_and, not_true_eq_false, not_false_eq_true, true_imp_iff, false_imp_iff, imp_self, or_true, true_or, or_false, false_or, and_self, ite_true, ite_false, if_true, if_false]
    rw [sumN_cut (by omega)]
    exact hq gi1 fr
def owMod (s j : Nat) : Bool := layMod s j || taxMod s j
theorem Fr_owl {gi gi' : GI} (h : Fr layMod gi gi') : Fr owMod gi gi' := Fr_mono h (fun s j q => by
  unfold owMod at q
  simp only [Bool.or_eq_false_iff] at q
  exact q.1)
theorem Fr_owt {gi gi' : GI} (h : Fr taxMod gi gi') : Fr owMod gi gi' := Fr_mono h (fun s j q => by
  unfold owMod at q
  simp only [Bool.or_eq_false_iff] at q
  exact q.2)
/-- the law in force, by the reference -/
def ForceM (gi : GI) (L : Option (List PC)) : Prop := (gi 64 0 798 = -1 ∧ L = none) ∨ ∃ l l', gi 64 0 798 = n32 l ∧ l < 6 ∧ KLaw (gi 64 0) l l' ∧ L = some l'
theorem ForceM_LawM {gi gi' : GI} {L : Option (List PC)} (h : ForceM gi L) (h27 : gi' 12 0 27 = gi 64 0 798) (h64 : ∀ j, gi' 64 0 j = gi 64 0 j) : LawM gi' L := by
  rcases h with ⟨a, b⟩ | ⟨l, l', a, b, c, e⟩
  · exact Or.inl ⟨h27.trans a, b⟩
  · exact Or.inr ⟨l, l', h27.trans a, b, KLaw_eq c h64, e⟩
theorem c_M_owesOf {D : Nat} {gi : GI} {g : AG} {Q : Option AV → AH → Prop} (hD : 47 ≤ D) (hG : GOK g) {t W T O dy sl : Nat} {b : Nat → Nat} {L : Option (List PC)} (ht6 : t < 6) (h : ThM gi t W T O b) (hO5 : O ≤ 5) (hdy : gi 64 0 793 = n32 dy) (hdy2 : dy ≤ 1000) (hL : ForceM gi L) (hsl : gi 64 0 792 = n32 sl) (bs : sl ≤ 1000)
    (hq : ∀ gi', Fr owMod gi gi' → Q (some (.inl (n32 (owesF L W T O dy sl b)))) (gi', g)) :
    ax_call D m_M_owesOf [.inr (.inr (some (12, 0))), .inl (n32 t)] (gi, g) Q := by
  obtain ⟨d, rfl⟩ : ∃ d2, D = d2 + 3 := ⟨D - 3, by omega⟩
  rw [e_M_owesOf, b_M_owesOf_0]
  refine c_M_lays (d := d) hG ht6 h ?_
  intro gi1 fr hl h27 h28
  simp only [ax_psh_none, ax_psh_some, true_and, and_true, and_false, false_and, not_true_eq_false, not_false_eq_true, true_imp_iff, false_imp_iff, imp_self, or_true, true_or, or_false, false_or, and_self, ite_true, ite_false, if_true, if_false]
  rw [b_M_owesOf_5]
  have e64 : ∀ j, gi1 64 0 j = gi 64 0 j := fun j => fr 64 0 j rfl
  refine c_M_owesNow (D := d + 2) (by omega) hG hl h.2.2.2.1.1 h.2.2.2.2.1.1 ((e64 _).trans h.2.2.1) hO5 (h28.trans hdy) hdy2 (ForceM_LawM hL h27 e64) ((e64 _).trans hsl) bs ?_
  intro gi2 fr2
  simp only [b_M_owesOf_9, ax_psh_none, ax_psh_some, true_and, and_true, and_false, false_and, not_true_eq_false, not_false_eq_true, true_imp_iff, false_imp_iff, imp_self, or_true, true_or, or_false, false_or, and_self, ite_true, ite_false, if_true, if_false]
  exact hq gi2 (Fr_trans (Fr_owl fr) (Fr_owt fr2))
/-! forms -/
theorem c_M_isForm (d : Nat) (gi : GI) (g : AG) (Q : Option AV → AH → Prop) {W T f : Nat} (hw : gi 12 0 25 = n32 W) (ht : gi 12 0 26 = n32 T) (hW : W ≤ 8) (hT : T ≤ 8) (hf : f < 8) : ax_call (d + 2) m_M_isForm [.inr (.inr (some (12, 0))), .inl (n32 f)] (gi, g) Q = Q (some (.inl (b32 (isF W T f)))) (gi, g) := by
  by_cases e : W = T
  · subst e
    have hF : isF W W f = true := by
      unfold isF
      simp
      omega
    simp (disch := omega) only [e_M_isForm, b_M_isForm_0, b_M_isForm_11, b_M_isForm_18, b_M_isForm_21, b_M_isForm_27, b_M_isForm_30, b_M_isForm_36, b_M_isForm_40, b_M_isForm_41, c_M_lies, hw, ht, win_yes (Nat.zero_le f) (by omega : f ≤ 7), hF, b32_1, n32_add, n32_mul, n32_lt, n32_le, n32_eq, n32_clamp, n32_inT, n32_div, n32_rem, n32_m1, n32_m1', n32_m1lt, n32_ltm1, n32_10, n32_01, Nat.not_lt_zero, Nat.lt_irrefl, Nat.mul_zero, Nat.zero_mul, Nat.zero_add, Nat.add_zero, Nat.reduceEqDiff, Nat.one_ne_zero, Nat.zero_ne_one, ax_psh_none, ax_psh_some, true_and, and_true, and_false, false_and, not_true_eq_false, not_false_eq_true, true_imp_iff, false_imp_iff, imp_self, or_true, true_or, or_false, false_or, and_self, ite_true, ite_false, if_true, if_false]
  · by_cases h2 : f ≤ 2
    · have hF : isF W T f = true := by
        unfold isF
        simp
        omega
      simp (disch := omega) only [e_M_isForm, b_M_isForm_0, b_M_isForm_11, b_M_isForm_18, b_M_isForm_21, b_M_isForm_27, b_M_isForm_30, b_M_isForm_36, b_M_isForm_40, b_M_isForm_41, c_M_lies, hw, ht, e, win_T (Nat.zero_le f) h2, hF, b32_1, n32_add, n32_mul, n32_lt, n32_le, n32_eq, n32_clamp, n32_inT, n32_div, n32_rem, n32_m1, n32_m1', n32_m1lt, n32_ltm1, n32_10, n32_01, Nat.not_lt_zero, Nat.lt_irrefl, Nat.mul_zero, Nat.zero_mul, Nat.zero_add, Nat.add_zero, Nat.reduceEqDiff, Nat.one_ne_zero, Nat.zero_ne_one, ax_psh_none, ax_psh_some, true_and, and_true, and_false, false_and, not_true_eq_false, not_false_eq_true, true_imp_iff, false_imp_iff, imp_self, or_true, true_or, or_false, false_or, and_self, ite_true, ite_false, if_true, if_false]
    · have ew : win (n32 f) (n32 0) (n32 2) = n32 0 := by
        rw [win_in (by omega) (by omega) (by omega)]
        omega
      by_cases h6 : f = 6
      · subst h6
        have hF : isF W T 6 = true := by simp [isF]
        simp (disch := omega) only [e_M_isForm, b_M_isForm_0, b_M_isForm_11, b_M_isForm_18, b_M_isForm_21, b_M_isForm_27, b_M_isForm_30, b_M_isForm_36, b_M_isForm_40, b_M_isForm_41, c_M_lies, hw, ht, e, ew, hF, b32_1, n32_add, n32_mul, n32_lt, n32_le, n32_eq, n32_clamp, n32_inT, n32_div, n32_rem, n32_m1, n32_m1', n32_m1lt, n32_ltm1, n32_10, n32_01, Nat.not_lt_zero, Nat.lt_irrefl, Nat.mul_zero, Nat.zero_mul, Nat.zero_add, Nat.add_zero, Nat.reduceEqDiff, Nat.one_ne_zero, Nat.zero_ne_one, ax_psh_none, ax_psh_some, true_and, and_true, and_false, false_and, not_true_eq_false, not_false_eq_true, true_imp_iff, false_imp_iff, imp_self, or_true, true_or, or_false, false_or, and_self, ite_true, ite_false, if_true, if_false]
      · have hF : isF W T f = false := by
          unfold isF
          simp [e, h6]
          omega
        simp (disch := omega) only [e_M_isForm, b_M_isForm_0, b_M_isForm_11, b_M_isForm_18, b_M_isForm_21, b_M_isForm_27, b_M_isForm_30, b_M_isForm_36, b_M_isForm_40, b_M_isForm_41, c_M_lies, hw, ht, e, ew, h6, hF, b32_0, n32_add, n32_mul, n32_lt, n32_le, n32_eq, n32_clamp, n32_inT, n32_div, n32_rem, n32_m1, n32_m1', n32_m1lt, n32_ltm1, n32_10, n32_01, Nat.not_lt_zero, Nat.lt_irrefl, Nat.mul_zero, Nat.zero_mul, Nat.zero_add, Nat.add_zero, Nat.reduceEqDiff, Nat.one_ne_zero, Nat.zero_ne_one, ax_psh_none, ax_psh_some, true_and, and_true, and_false, false_and, not_true_eq_false, not_false_eq_true, true_imp_iff, false_imp_iff, imp_self, or_true, true_or, or_false, false_or, and_self, ite_true, ite_false, if_true, if_false]
theorem c_M_isAs (d : Nat) {gi : GI} {g : AG} {Q : Option AV → AH → Prop} (hG : GOK g) {t r W T W' T' O' f : Nat} {b b' : Nat → Nat} (h : Laid gi t W T b) (hW1 : 1 ≤ W) (hT1 : 1 ≤ T) (hr : r < 6) (h' : ThM gi r W' T' O' b') (hf : f < 8) (hF : isF W T f = true) : ax_call (d + 3) m_M_isAs [.inr (.inr (some (12, 0))), .inl (n32 f), .inl (n32 r)] (gi, g) Q = Q (some (.inl (b32 (asB W T b W' T' b' f)))) (gi, g) := by
  obtain ⟨-, hw, ht, hW, hT, -, hb⟩ := h
  obtain ⟨w0, w1, w2, hW', hT', hb'⟩ := h'
  have h64 := wt64 hW hT
  rw [e_M_isAs]
  by_cases e1 : W = W'
  · subst e1
    by_cases e2 : T = T'
    · subst e2
      have key := loop_up (n := W * T) (P := fun i => (∀ c, c < i → b' c = b (tk W T f c)) → Runs (d + 2) (m_M_isAs, 30, [some (.inr (.inr (some (12, 0)))), some (.inl (n32 f)), some (.inl (n32 r)), some (.inl (n32 i))], []) (gi, g) Q = Q (some (.inl (b32 (asB W T b W T b' f)))) (gi, g)) ?_ ?_
      · simp (disch := omega) only [b_M_isAs_0, b_M_isAs_10, b_M_isAs_13, b_M_isAs_23, b_M_isAs_28, c_M_factOf _ _ _ _ hG, hw, ht, w0, w1, n32_add, n32_mul, n32_lt, n32_le, n32_eq, n32_clamp, n32_inT, n32_div, n32_rem, n32_m1, n32_m1', n32_m1lt, n32_ltm1, n32_10, n32_01, Nat.not_lt_zero, Nat.lt_irrefl, Nat.mul_zero, Nat.zero_mul, Nat.zero_add, Nat.add_zero, Nat.reduceEqDiff, Nat.one_ne_zero, Nat.zero_ne_one, ax_psh_none, ax_psh_some, true_and, and_true, and_false, false_and, not_true_eq_false, not_false_eq_true, true_imp_iff, false_imp_iff, imp_self, or_true, true_or, or_false, false_or, and_self, ite_true, ite_false, if_true, if_false]
        exact key 0 (Nat.zero_le _) (fun c hc => absurd hc (Nat.not_lt_zero c))
      · intro i hi ih hpre
        have htk := tk_lt hW hT hf hF hi
        have b1 := hb' i (by omega)
        have b2 := hb _ htk
        rw [b_M_isAs_30]
        by_cases he : b' i = b (tk W T f i)
        · simp (disch := omega) only [b_M_isAs_43, b_M_isAs_53, b_M_isAs_62, b_M_isAs_67, hw, ht, hi, G_0_0 hG, G_0_1 hG, G_0_2 hG, G_0_3 hG, G_0_7 hG, G_0_10 hG, G_0_12 hG, G_0_13 hG, G_0_14 hG, G_0_15 hG, G_0_16 hG, G_0_17 hG, G_1_0 hG, G_1_2 hG, G_1_5 hG, G_2_4 hG, G_2_5 hG, G_3_5 hG, G_3_6 hG, G_3_7 hG, G_3_8 hG, G_3_9 hG, G_5_0 hG, G_5_1 hG, G_6_0 hG, G_6_1 hG, G_6_2 hG, G_6_9 hG, G_6_10 hG, G_6_11 hG, G_6_12 hG, G_6_13 hG, G_7_0 hG, G_7_5 hG, G_8_8 hG, G_8_9 hG, G_9_8 hG, G_9_9 hG, G_10_7 hG, G_10_8 hG, G_10_9 hG, G_10_10 hG, G_10_11 hG, G_11_0 hG, G_12_2 hG, G_12_3 hG, G_12_4 hG, G_12_5 hG, G_12_7 hG, G_12_8 hG, G_12_9 hG, G_12_12 hG, G_12_13 hG, G_12_14 hG, G_12_22 hG, G_12_23 hG, G_12_29 hG, G_12_30 hG, G_12_31 hG, G_12_37 hG, G_12_38 hG, G_12_39 hG, G_12_40 hG, G_12_41 hG, G_12_43 hG, G_12_46 hG, G_12_47 hG, G_12_48 hG, G_25 hG, G_26 hG, G_47 hG, G_58 hG, c_M_takenTo _ hG hw ht ⟨hW1, hW⟩ ⟨hT1, hT⟩ hf hF hi, c_M_factOf _ _ _ _ hG, b1.1, b2.1, he, n32_add, n32_mul, n32_lt, n32_le, n32_eq, n32_clamp, n32_inT, n32_div, n32_rem, n32_m1, n32_m1', n32_m1lt, n32_ltm1, n32_10, n32_01, Nat.not_lt_zero, Nat.lt_irrefl, Nat.mul_zero, Nat.zero_mul, Nat.zero_add, Nat.add_zero, Nat.reduceEqDiff, Nat.one_ne_zero, Nat.zero_ne_one, ax_psh_none, ax_psh_some, true_and, and_true, and_false, false_and, not_true_eq_false, not_false_eq_true, true_imp_iff, false_imp_iff, imp_self, or_true, true_or, or_false, false_or, and_self, ite_true, ite_false, if_true, if_false]
          exact ih (fun c hc => by
            by_cases z : c = i
            · subst z
              exact he
            · exact hpre c (by omega))
        · have ef : asB W T b W T b' f = false := by
            unfold asB
            rw [allN_false hi (decide_eq_false he), Bool.and_false]
          have he' : ¬ b (tk W T f i) = b' i := fun z => he z.symm
          simp (disch := omega) only [b_M_isAs_43, b_M_isAs_53, b_M_isAs_62, b_M_isAs_65, hw, ht, hi, G_0_0 hG, G_0_1 hG, G_0_2 hG, G_0_3 hG, G_0_7 hG, G_0_10 hG, G_0_12 hG, G_0_13 hG, G_0_14 hG, G_0_15 hG, G_0_16 hG, G_0_17 hG, G_1_0 hG, G_1_2 hG, G_1_5 hG, G_2_4 hG, G_2_5 hG, G_3_5 hG, G_3_6 hG, G_3_7 hG, G_3_8 hG, G_3_9 hG, G_5_0 hG, G_5_1 hG, G_6_0 hG, G_6_1 hG, G_6_2 hG, G_6_9 hG, G_6_10 hG, G_6_11 hG, G_6_12 hG, G_6_13 hG, G_7_0 hG, G_7_5 hG, G_8_8 hG, G_8_9 hG, G_9_8 hG, G_9_9 hG, G_10_7 hG, G_10_8 hG, G_10_9 hG, G_10_10 hG, G_10_11 hG, G_11_0 hG, G_12_2 hG, G_12_3 hG, G_12_4 hG, G_12_5 hG, G_12_7 hG, G_12_8 hG, G_12_9 hG, G_12_12 hG, G_12_13 hG, G_12_14 hG, G_12_22 hG, G_12_23 hG, G_12_29 hG, G_12_30 hG, G_12_31 hG, G_12_37 hG, G_12_38 hG, G_12_39 hG, G_12_40 hG, G_12_41 hG, G_12_43 hG, G_12_46 hG, G_12_47 hG, G_12_48 hG, G_25 hG, G_26 hG, G_47 hG, G_58 hG, c_M_takenTo _ hG hw ht ⟨hW1, hW⟩ ⟨hT1, hT⟩ hf hF hi, c_M_factOf _ _ _ _ hG, b1.1, b2.1, he', ef, b32_0, n32_add, n32_mul, n32_lt, n32_le, n32_eq, n32_clamp, n32_inT, n32_div, n32_rem, n32_m1, n32_m1', n32_m1lt, n32_ltm1, n32_10, n32_01, Nat.not_lt_zero, Nat.lt_irrefl, Nat.mul_zero, Nat.zero_mul, Nat.zero_add, Nat.add_zero, Nat.reduceEqDiff, Nat.one_ne_zero, Nat.zero_ne_one, ax_psh_none, ax_psh_some, true_and, and_true, and_false, false_and, not_true_eq_false, not_false_eq_true, true_imp_iff, false_imp_iff, imp_self, or_true, true_or, or_false, false_or, and_self, ite_true, ite_false, if_true, if_false]
      · intro hpre
        have et : asB W T b W T b' f = true := by
          unfold asB
          rw [allN_true (fun i hi => decide_eq_true (hpre i hi))]
          simp
        rw [b_M_isAs_30]
        simp (disch := omega) only [b_M_isAs_73, hw, ht, et, b32_1, n32_add, n32_mul, n32_lt, n32_le, n32_eq, n32_clamp, n32_inT, n32_div, n32_rem, n32_m1, n32_m1', n32_m1lt, n32_ltm1, n32_10, n32_01, Nat.not_lt_zero, Nat.lt_irrefl, Nat.mul_zero, Nat.zero_mul, Nat.zero_add, Nat.add_zero, Nat.reduceEqDiff, Nat.one_ne_zero, Nat.zero_ne_one, ax_psh_none, ax_psh_some, true_and, and_true, and_false, false_and, not_true_eq_false, not_false_eq_true, true_imp_iff, false_imp_iff, imp_self, or_true, true_or, or_false, false_or, and_self, ite_true, ite_false, if_true, if_false]
    · have ef : asB W T b W T' b' f = false := by
        unfold asB
        rw [decide_eq_false e2]
        simp
      simp (disch := omega) only [b_M_isAs_0, b_M_isAs_10, b_M_isAs_13, b_M_isAs_23, b_M_isAs_26, c_M_factOf _ _ _ _ hG, hw, ht, w0, w1, e2, ef, b32_0, n32_add, n32_mul, n32_lt, n32_le, n32_eq, n32_clamp, n32_inT, n32_div, n32_rem, n32_m1, n32_m1', n32_m1lt, n32_ltm1, n32_10, n32_01, Nat.not_lt_zero, Nat.lt_irrefl, Nat.mul_zero, Nat.zero_mul, Nat.zero_add, Nat.add_zero, Nat.reduceEqDiff, Nat.one_ne_zero, Nat.zero_ne_one, ax_psh_none, ax_psh_some, true_and, and_true, and_false, false_and, not_true_eq_false, not_false_eq_true, true_imp_iff, false_imp_iff, imp_self, or_true, true_or, or_false, false_or, and_self, ite_true, ite_false, if_true, if_false]
  · have ef : asB W T b W' T' b' f = false := by
      unfold asB
      rw [decide_eq_false e1]
      simp
    simp (disch := omega) only [b_M_isAs_0, b_M_isAs_10, b_M_isAs_26, c_M_factOf _ _ _ _ hG, hw, ht, w0, w1, e1, ef, b32_0, n32_add, n32_mul, n32_lt, n32_le, n32_eq, n32_clamp, n32_inT, n32_div, n32_rem, n32_m1, n32_m1', n32_m1lt, n32_ltm1, n32_10, n32_01, Nat.not_lt_zero, Nat.lt_irrefl, Nat.mul_zero, Nat.zero_mul, Nat.zero_add, Nat.add_zero, Nat.reduceEqDiff, Nat.one_ne_zero, Nat.zero_ne_one, ax_psh_none, ax_psh_some, true_and, and_true, and_false, false_and, not_true_eq_false, not_false_eq_true, true_imp_iff, false_imp_iff, imp_self, or_true, true_or, or_false, false_or, and_self, ite_true, ite_false, if_true, if_false]
theorem c_M_formsAs {d t r W T O W' T' O' : Nat} {b b' : Nat → Nat} {gi : GI} {g : AG} {Q : Option AV → AH → Prop} (hG : GOK g) (ht6 : t < 6) (hr6 : r < 6) (h : ThM gi t W T O b) (h' : ThM gi r W' T' O' b')
    (hq : ∀ gi', Fr layMod gi gi' → Q (some (.inl (n32 (maskS (fun f => isF W T f && asB W T b W' T' b' f) 8)))) (gi', g)) :
    ax_call (d + 4) m_M_formsAs [.inr (.inr (some (12, 0))), .inl (n32 t), .inl (n32 r)] (gi, g) Q := by
  rw [e_M_formsAs, b_M_formsAs_0]
  refine c_M_lays (d := d + 1) hG ht6 h ?_
  intro gi1 fr hl h27 h28
  have hW1 := h.2.2.2.1.1
  have hT1 := h.2.2.2.2.1.1
  have hr1 : ThM gi1 r W' T' O' b' := ThM_fr h' (fun j => fr 64 0 j rfl)
  have key := loop_up (n := 8) (P := fun i => ∀ o1, Runs (d + 3) (m_M_formsAs, 10, [some (.inr (.inr (some (12, 0)))), o1, some (.inl (n32 r)), some (.inl (n32 (maskS (fun f => isF W T f && asB W T b W' T' b' f) i))), some (.inl (n32 i))], []) (gi1, g) Q = Q (some (.inl (n32 (maskS (fun f => isF W T f && asB W T b W' T' b' f) 8)))) (gi1, g)) ?_ ?_
  · simp only [b_M_formsAs_5, ax_psh_none, ax_psh_some, true_and, and_true, and_false, false_and, not_true_eq_false, not_false_eq_true, true_imp_iff, false_imp_iff, imp_self, or_true, true_or, or_false, false_or, and_self, ite_true, ite_false, if_true, if_false]
    exact Eq.mpr (key 0 (by omega) _) (hq gi1 fr)
  · intro i hi ih o1
    rw [b_M_formsAs_10]
    cases hF : isF W T i with
    | true =>
      cases hA : asB W T b W' T' b' i with
      | true =>
        have e : maskS (fun f => isF W T f && asB W T b W' T' b' f) (i + 1) = maskS (fun f => isF W T f && asB W T b W' T' b' f) i ||| 2 ^ i := by
          show (if (isF W T i && asB W T b W' T' b' i) = true then _ else _) = _
          rw [if_pos (by rw [hF, hA]; rfl)]
        simp (disch := omega) only [b_M_formsAs_17, b_M_formsAs_24, b_M_formsAs_27, b_M_formsAs_34, b_M_formsAs_37, b_M_formsAs_45, hi, c_M_isForm _ _ _ _ hl.2.1 hl.2.2.1 hl.2.2.2.1 hl.2.2.2.2.1 hi, hF, c_M_isAs _ hG hl hW1 hT1 hr6 hr1 hi hF, hA, b32_1, sl_ok (by omega : i < 10), or_ok, n32_add, n32_mul, n32_lt, n32_le, n32_eq, n32_clamp, n32_inT, n32_div, n32_rem, n32_m1, n32_m1', n32_m1lt, n32_ltm1, n32_10, n32_01, Nat.not_lt_zero, Nat.lt_irrefl, Nat.mul_zero, Nat.zero_mul, Nat.zero_add, Nat.add_zero, Nat.reduceEqDiff, Nat.one_ne_zero, Nat.zero_ne_one, ax_psh_none, ax_psh_some, true_and, and_true, and_false, false_and, not_true_eq_false, not_false_eq_true, true_imp_iff, false_imp_iff, imp_self, or_true, true_or, or_false, false_or, and_self, ite_true, ite_false, if_true, if_false]
        rw [← e]
        exact ih _
      | false =>
        have e : maskS (fun f => isF W T f && asB W T b W' T' b' f) (i + 1) = maskS (fun f => isF W T f && asB W T b W' T' b' f) i := by
          show (if (isF W T i && asB W T b W' T' b' i) = true then _ else _) = _
          rw [if_neg (by rw [hF, hA]; decide)]
        simp (disch := omega) only [b_M_formsAs_17, b_M_formsAs_24, b_M_formsAs_27, b_M_formsAs_34, b_M_formsAs_44, b_M_formsAs_45, hi, c_M_isForm _ _ _ _ hl.2.1 hl.2.2.1 hl.2.2.2.1 hl.2.2.2.2.1 hi, hF, c_M_isAs _ hG hl hW1 hT1 hr6 hr1 hi hF, hA, b32_1, b32_0, or_ok, Nat.or_zero, n32_add, n32_mul, n32_lt, n32_le, n32_eq, n32_clamp, n32_inT, n32_div, n32_rem, n32_m1, n32_m1', n32_m1lt, n32_ltm1, n32_10, n32_01, Nat.not_lt_zero, Nat.lt_irrefl, Nat.mul_zero, Nat.zero_mul, Nat.zero_add, Nat.add_zero, Nat.reduceEqDiff, Nat.one_ne_zero, Nat.zero_ne_one, ax_psh_none, ax_psh_some, true_and, and_true, and_false, false_and, not_true_eq_false, not_false_eq_true, true_imp_iff, false_imp_iff, imp_self, or_true, true_or, or_false, false_or, and_self, ite_true, ite_false, if_true, if_false]
        rw [← e]
        exact ih _
    | false =>
      have e : maskS (fun f => isF W T f && asB W T b W' T' b' f) (i + 1) = maskS (fun f => isF W T f && asB W T b W' T' b' f) i := by
        show (if (isF W T i && asB W T b W' T' b' i) = true then _ else _) = _
        rw [if_neg (by rw [hF, Bool.false_and]; decide)]
      simp (disch := omega) only [b_M_formsAs_17, b_M_formsAs_24, b_M_formsAs_44, b_M_formsAs_45, hi, c_M_isForm _ _ _ _ hl.2.1 hl.2.2.1 hl.2.2.2.1 hl.2.2.2.2.1 hi, hF, b32_0, or_ok, Nat.or_zero, n32_add, n32_mul, n32_lt, n32_le, n32_eq, n32_clamp, n32_inT, n32_div, n32_rem, n32_m1, n32_m1', n32_m1lt, n32_ltm1, n32_10, n32_01, Nat.not_lt_zero, Nat.lt_irrefl, Nat.mul_zero, Nat.zero_mul, Nat.zero_add, Nat.add_zero, Nat.reduceEqDiff, Nat.one_ne_zero, Nat.zero_ne_one, ax_psh_none, ax_psh_some, true_and, and_true, and_false, false_and, not_true_eq_false, not_false_eq_true, true_imp_iff, false_imp_iff, imp_self, or_true, true_or, or_false, false_or, and_self, ite_true, ite_false, if_true, if_false]
      rw [← e]
      exact ih _
  · intro o1
    rw [b_M_formsAs_10]
    simp (disch := omega) only [b_M_formsAs_53, n32_add, n32_mul, n32_lt, n32_le, n32_eq, n32_clamp, n32_inT, n32_div, n32_rem, n32_m1, n32_m1', n32_m1lt, n32_ltm1, n32_10, n32_01, Nat.not_lt_zero, Nat.lt_irrefl, Nat.mul_zero, Nat.zero_mul, Nat.zero_add, Nat.add_zero, Nat.reduceEqDiff, Nat.one_ne_zero, Nat.zero_ne_one, ax_psh_none, ax_psh_some, true_and, and_true, and_false, false_and, not_true_eq_false, not_false_eq_true, true_imp_iff, false_imp_iff, imp_self, or_true, true_or, or_false, false_or, and_self, ite_true, ite_false, if_true, if_false]
