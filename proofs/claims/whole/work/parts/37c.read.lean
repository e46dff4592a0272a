/-! a text read, by both -/
def rdAll (s j : Nat) : Bool := (s == 6 && Nat.ble 3 j && Nat.ble j 8) || (Nat.ble 31 s && Nat.ble s 38)
theorem rdAll_cl {gi gi' : GI} (h : Fr clMod gi gi') : Fr rdAll gi gi' := Fr_mono h (fun s j q => by
  unfold rdAll at q
  unfold clMod rdMod
  simp only [Bool.or_eq_false_iff, Bool.and_eq_false_iff, beq_eq_false_iff_ne, ne_eq] at q ⊢
  have hb : ∀ a b : Nat, Nat.ble a b = false ↔ ¬ a ≤ b := fun a b => by
    cases h : Nat.ble a b
    · simp only [true_iff]
      exact fun z => by rw [Nat.ble_eq_true_of_le z] at h; exact absurd h (by decide)
    · simp only [Bool.true_eq_false, false_iff, Decidable.not_not]
      exact Nat.le_of_ble_eq_true h
  simp only [hb] at q
  omega)
theorem rdAll_sp {gi gi' : GI} (h : Fr spMod gi gi') : Fr rdAll gi gi' := Fr_mono h (fun s j q => by
  unfold rdAll at q
  unfold spMod
  simp only [Bool.or_eq_false_iff, Bool.and_eq_false_iff, beq_eq_false_iff_ne, ne_eq] at q ⊢
  have hb : ∀ a b : Nat, Nat.ble a b = false ↔ ¬ a ≤ b := fun a b => by
    cases h : Nat.ble a b
    · simp only [true_iff]
      exact fun z => by rw [Nat.ble_eq_true_of_le z] at h; exact absurd h (by decide)
    · simp only [Bool.true_eq_false, false_iff, Decidable.not_not]
      exact Nat.le_of_ble_eq_true h
  simp only [hb] at q
  omega)
theorem c_read {d q n : Nat} {gi : GI} {g : AG} {Q : Option AV → AH → Prop} {B : Nat → Nat} (hd : 40 ≤ d) (hG : GOK g) (hS : StrOK gi g) (hT : TapeC gi B) (hB : ∀ i, i < n → B i < 256) (hn : n ≤ 400) (hg : GN g q)
    (hf : ∀ f gi', pLaw (lxC (lx B n)) (lxV (lx B n)) (lx B n).length 12 0 0 0 = .inl f → Fr rdAll gi gi' → gi' 6 0 6 = n32 (lxP (lx B n) n f) → Q (some (.inr (.inr none))) (gi', g))
    (hok : ∀ L gi' g', pLaw (lxC (lx B n)) (lxV (lx B n)) (lx B n).length 12 0 0 0 = .inr L → (∀ s a j, rdAll s j = false → ¬ (s = 4 ∧ a = q) → ¬ (s = 60 ∧ a = q) → ¬ (s = 61 ∧ a = q) → ¬ (s = 62 ∧ 3 * q ≤ a) → gi' s a j = gi s a j) → gi' 6 0 6 = -1 → LawG g g' q → LawObj gi' g' q L → Q (some (.inr (.inr (some (4, q))))) (gi', g')) :
    ax_call d m_Reader_read [.inr (.inr (some (6, 0))), .inr (.inr (some (22, 0))), .inl (n32 n)] (gi, g) Q := by
  obtain ⟨d, rfl⟩ : ∃ d2, d = d2 + 36 := ⟨d - 36, by omega⟩
  have hlen : (lx B n).length ≤ n := lx_len
  rw [e_Reader_read, b_Reader_read_0]
  refine c_split (d := d + 26) hG hn hS hT ?_
  intro gi1 fr1 hst
  simp only [ax_psh_none, ax_psh_some, true_and, and_true, and_false, false_and, not_true_eq_false, not_false_eq_true, true_imp_iff, false_imp_iff, imp_self, or_true, true_or, or_false, false_or, and_self, ite_true, ite_false, if_true, if_false]
  obtain ⟨htok, hpl⟩ := StC_Tok (lx_ok hB) (by omega) hst
  rw [b_Reader_read_6]
  have fr2 : Fr rdAll gi (ax_wI (ax_wI (ax_wI (ax_wI (ax_wI gi1 6 0 4 (n32 0)) 6 0 5 (n32 0)) 6 0 7 (n32 0)) 6 0 8 (n32 0)) 6 0 6 (-1)) := Fr_wI (Fr_wI (Fr_wI (Fr_wI (Fr_wI (rdAll_sp fr1) rfl) rfl) rfl) rfl) rfl
  have htok2 : TokC (ax_wI (ax_wI (ax_wI (ax_wI (ax_wI gi1 6 0 4 (n32 0)) 6 0 5 (n32 0)) 6 0 7 (n32 0)) 6 0 8 (n32 0)) 6 0 6 (-1)) (lxC (lx B n)) (lxV (lx B n)) (lx B n).length := by
    refine TokC_cl htok ?_
    exact Fr_wI (Fr_wI (Fr_wI (Fr_wI (Fr_wI (Fr_refl _ _) rfl) rfl) rfl) rfl) rfl
  have w33 : ∀ f, ax_wI (ax_wI (ax_wI (ax_wI (ax_wI gi1 6 0 4 (n32 0)) 6 0 5 (n32 0)) 6 0 7 (n32 0)) 6 0 8 (n32 0)) 6 0 6 (-1) 33 0 f = gi1 33 0 f := fun f => by simp [wI_at]
  have w66 : ax_wI (ax_wI (ax_wI (ax_wI (ax_wI gi1 6 0 4 (n32 0)) 6 0 5 (n32 0)) 6 0 7 (n32 0)) 6 0 8 (n32 0)) 6 0 6 (-1) 6 0 6 = -1 := by simp [wI_at]
  have w4 : ax_wI (ax_wI (ax_wI (ax_wI (ax_wI gi1 6 0 4 (n32 0)) 6 0 5 (n32 0)) 6 0 7 (n32 0)) 6 0 8 (n32 0)) 6 0 6 (-1) 6 0 4 = n32 0 := by simp [wI_at]
  have w5 : ax_wI (ax_wI (ax_wI (ax_wI (ax_wI gi1 6 0 4 (n32 0)) 6 0 5 (n32 0)) 6 0 7 (n32 0)) 6 0 8 (n32 0)) 6 0 6 (-1) 6 0 5 = n32 0 := by simp [wI_at]
  have w7 : ax_wI (ax_wI (ax_wI (ax_wI (ax_wI gi1 6 0 4 (n32 0)) 6 0 5 (n32 0)) 6 0 7 (n32 0)) 6 0 8 (n32 0)) 6 0 6 (-1) 6 0 7 = n32 0 := by simp [wI_at]
  have w8 : ax_wI (ax_wI (ax_wI (ax_wI (ax_wI gi1 6 0 4 (n32 0)) 6 0 5 (n32 0)) 6 0 7 (n32 0)) 6 0 8 (n32 0)) 6 0 6 (-1) 6 0 8 = n32 0 := by simp [wI_at]
  generalize ax_wI (ax_wI (ax_wI (ax_wI (ax_wI gi1 6 0 4 (n32 0)) 6 0 5 (n32 0)) 6 0 7 (n32 0)) 6 0 8 (n32 0)) 6 0 6 (-1) = gi2 at *
  rw [e_Reader_readClauses, b_Reader_readClauses_0]
  refine rd_clauses_loop 12 (by omega) (d + 34) gi2 g _ 0 0 0 0 (by omega) (by omega) hG htok2 w4 w5 w8 w7 (by omega) (by omega) (by omega) ?_ ?_
  · intro f gi' hk fr h6 hfN
    simp only [b_Reader_read_35, b_Reader_read_49, b_Reader_read_50a, ax_psh_none, ax_psh_some, true_and, and_true, and_false, false_and, not_true_eq_false, not_false_eq_true, true_imp_iff, false_imp_iff, imp_self, or_true, true_or, or_false, false_or, and_self, ite_true, ite_false, if_true, if_false]
    refine hf f gi' hk (Fr_trans fr2 (rdAll_cl fr)) ?_
    rw [h6, w33, hpl f hfN]
  · intro L gi' hk hne fr h7 h12 h8 h400 h66 hcs hlow
    simp only [Nat.zero_add] at h7 h12 h8 h400
    simp only [b_Reader_read_35, b_Reader_read_38, n32_10, ax_psh_none, ax_psh_some, true_and, and_true, and_false, false_and, not_true_eq_false, not_false_eq_true, true_imp_iff, false_imp_iff, imp_self, or_true, true_or, or_false, false_or, and_self, ite_true, ite_false, if_true, if_false]
    obtain ⟨g3, e3, ng3⟩ := new_g gi' g 4 6
    obtain ⟨n4, n60, n61, n62⟩ := hg
    rw [e3, n4]
    simp only [n4] at ng3
    have o3 := onlyI_z gi' 4 q 6
    generalize ax_zI gi' 4 q 6 = gi3 at *
    have hG3 : GOK g3 := GOK_of hG (fun s a j h1 _ _ _ _ => ng3.1 s a j (fun z => h1 z.1))
    rw [b_Reader_read_41]
    refine c_Law_init (d := d + 33) (q := q) (l := L) hG3 ?_ ?_ ?_ ?_ ?_ ?_ h12 h400 ?_ ?_
    · rw [ng3.2.1, if_pos rfl]
    · rw [ng3.2.1, if_neg (by decide), n60]
    · rw [ng3.2.1, if_neg (by decide), n61]
    · rw [ng3.2.1, if_neg (by decide), n62]
    · rw [o3 6 0 7 (by omega), h7]
    · rw [o3 6 0 8 (by omega), h8]
    · exact CsAt_congr (fun j => o3 34 0 j (by omega)) (fun j => o3 35 0 j (by omega)) (fun j => o3 36 0 j (by omega)) (fun j => o3 37 0 j (by omega)) (fun j => o3 38 0 j (by omega)) hcs
    · intro gi4 g4 lI a1 a2 a3 a4 a5 a6 lo
      simp only [b_Reader_read_46, b_Reader_read_50b, ax_psh_none, ax_psh_some, true_and, and_true, and_false, false_and, not_true_eq_false, not_false_eq_true, true_imp_iff, false_imp_iff, imp_self, or_true, true_or, or_false, false_or, and_self, ite_true, ite_false, if_true, if_false]
      refine hok L gi4 g4 hk ?_ ?_ ⟨?_, ?_, ?_, ⟨a4.1, fun s z4 z60 z61 z62 => by rw [a4.2 s z4 z60 z61 z62, ng3.2.1, if_neg z4]⟩, ?_, ?_⟩ lo
      · intro s a j hm z4 z60 z61 z62
        rw [lI s a j z4 z60 z61 z62, o3 s a j z4, rdAll_cl fr s a j hm, fr2 s a j hm]
      · rw [lI 6 0 6 (by omega) (by omega) (by omega) (by omega), o3 6 0 6 (by omega), h66, w66]
      · intro s a j z4 z60 z61 z62
        rw [a1 s a j z4 z60 z61 z62, ng3.1 s a j (fun z => z4 z.1)]
      · intro a j ha
        rw [a2 a j ha, ng3.1 4 a j (fun z => ha z.2)]
      · intro s a z4 z60 z61 z62
        rw [a3 s a z60 z61 z62, ng3.2.2.1, if_neg (fun z => z4 z.1)]
      · have := ng3.2.2.2.1
        omega
      · have := ng3.2.2.2.2
        omega
def rmAll (s j : Nat) : Bool := (s == 12 && (j == 10 || j == 11 || (Nat.ble 15 j && Nat.ble j 18))) || s == 70 || s == 71 || s == 72
theorem rmAll_rf {gi gi' : GI} (h : Fr rfMod gi gi') : Fr rmAll gi gi' := Fr_mono h (fun s j q => by
  unfold rmAll at q
  unfold rfMod rmMod
  simp only [Bool.or_eq_false_iff, Bool.and_eq_false_iff, beq_eq_false_iff_ne, ne_eq] at q ⊢
  have hb : ∀ a b : Nat, Nat.ble a b = false ↔ ¬ a ≤ b := fun a b => by
    cases h : Nat.ble a b
    · simp only [true_iff]
      exact fun z => by rw [Nat.ble_eq_true_of_le z] at h; exact absurd h (by decide)
    · simp only [Bool.true_eq_false, false_iff, Decidable.not_not]
      exact Nat.le_of_ble_eq_true h
  simp only [hb] at q
  omega)
theorem rmAll_sm {gi gi' : GI} (h : Fr smMod gi gi') : Fr rmAll gi gi' := Fr_mono h (fun s j q => by
  unfold rmAll at q
  unfold smMod
  simp only [Bool.or_eq_false_iff, Bool.and_eq_false_iff, beq_eq_false_iff_ne, ne_eq] at q ⊢
  have hb : ∀ a b : Nat, Nat.ble a b = false ↔ ¬ a ≤ b := fun a b => by
    cases h : Nat.ble a b
    · simp only [true_iff]
      exact fun z => by rw [Nat.ble_eq_true_of_le z] at h; exact absurd h (by decide)
    · simp only [Bool.true_eq_false, false_iff, Decidable.not_not]
      exact Nat.le_of_ble_eq_true h
  simp only [hb] at q
  omega)
theorem c_reads {d n : Nat} {gi : GI} {g : AG} {Q : Option AV → AH → Prop} {B : Nat → Nat} (hd : 40 ≤ d) (hG : GOK g) (hW : WordsOK gi) (hT : TapeM gi B) (hB : ∀ i, i < n → B i < 256) (hn : n ≤ 400) (h10 : gi 12 0 10 = n32 n)
    (hf : ∀ f gi', pLaw (lxC (lx B n)) (lxV (lx B n)) (lx B n).length 12 0 0 0 = .inl f → Fr rmAll gi gi' → gi' 12 0 10 = n32 0 → gi' 12 0 11 = n32 (lxP (lx B n) n f) → Q (some (.inl (n32 0))) (gi', g))
    (hok : ∀ L gi', pLaw (lxC (lx B n)) (lxV (lx B n)) (lx B n).length 12 0 0 0 = .inr L → Fr rmAll gi gi' → gi' 12 0 10 = n32 0 → gi' 12 0 11 = -1 → gi' 12 0 15 = n32 (lx B n).length → (∀ i, i < (lx B n).length → gi' 70 0 i = n32 (lxC (lx B n) i) ∧ (lxC (lx B n) i = 50 → lxV (lx B n) i ≤ 1000 → gi' 71 0 i = n32 (lxV (lx B n) i))) → Q (some (.inl (n32 1))) (gi', g)) :
    ax_call d m_M_reads [.inr (.inr (some (12, 0)))] (gi, g) Q := by
  obtain ⟨d, rfl⟩ : ∃ d2, d = d2 + 36 := ⟨d - 36, by omega⟩
  have hlen : (lx B n).length ≤ n := lx_len
  rw [e_M_reads, b_M_reads_0, h10]
  refine c_splits (d := d + 32) hG hn hW hT ?_
  intro gi1 fr1 h15 hst
  simp only [ax_psh_none, ax_psh_some, true_and, and_true, and_false, false_and, not_true_eq_false, not_false_eq_true, true_imp_iff, false_imp_iff, imp_self, or_true, true_or, or_false, false_or, and_self, ite_true, ite_false, if_true, if_false]
  obtain ⟨htok, hpl, hval⟩ := StM_Tok (lx_ok hB) (by omega) hn hst
  rw [b_M_reads_8]
  have fr2 : Fr rmAll gi (ax_wI (ax_wI (ax_wI (ax_wI gi1 12 0 10 (n32 0)) 12 0 16 (n32 0)) 12 0 17 (n32 0)) 12 0 18 (-1)) := Fr_wI (Fr_wI (Fr_wI (Fr_wI (rmAll_sm fr1) rfl) rfl) rfl) rfl
  have w7 : ∀ s a j, s ≠ 12 → ax_wI (ax_wI (ax_wI (ax_wI gi1 12 0 10 (n32 0)) 12 0 16 (n32 0)) 12 0 17 (n32 0)) 12 0 18 (-1) s a j = gi1 s a j := fun s a j h => by simp [wI_at, h]
  have htok2 : TokM (ax_wI (ax_wI (ax_wI (ax_wI gi1 12 0 10 (n32 0)) 12 0 16 (n32 0)) 12 0 17 (n32 0)) 12 0 18 (-1)) (lxC (lx B n)) (lxV (lx B n)) (lx B n).length := by
    unfold TokM at *
    have q0 : ∀ a, ax_wI (ax_wI (ax_wI (ax_wI gi1 12 0 10 (n32 0)) 12 0 16 (n32 0)) 12 0 17 (n32 0)) 12 0 18 (-1) 70 0 a = gi1 70 0 a := fun a => w7 70 0 a (by decide)
    have q1 : ∀ a, ax_wI (ax_wI (ax_wI (ax_wI gi1 12 0 10 (n32 0)) 12 0 16 (n32 0)) 12 0 17 (n32 0)) 12 0 18 (-1) 71 0 a = gi1 71 0 a := fun a => w7 71 0 a (by decide)
    have q2 : ∀ a, ax_wI (ax_wI (ax_wI (ax_wI gi1 12 0 10 (n32 0)) 12 0 16 (n32 0)) 12 0 17 (n32 0)) 12 0 18 (-1) 72 0 a = gi1 72 0 a := fun a => w7 72 0 a (by decide)
    simp only [q0, q1, q2]
    exact htok
  have w10 : ax_wI (ax_wI (ax_wI (ax_wI gi1 12 0 10 (n32 0)) 12 0 16 (n32 0)) 12 0 17 (n32 0)) 12 0 18 (-1) 12 0 10 = n32 0 := by simp [wI_at]
  have w16 : ax_wI (ax_wI (ax_wI (ax_wI gi1 12 0 10 (n32 0)) 12 0 16 (n32 0)) 12 0 17 (n32 0)) 12 0 18 (-1) 12 0 16 = n32 0 := by simp [wI_at]
  have w17 : ax_wI (ax_wI (ax_wI (ax_wI gi1 12 0 10 (n32 0)) 12 0 16 (n32 0)) 12 0 17 (n32 0)) 12 0 18 (-1) 12 0 17 = n32 0 := by simp [wI_at]
  have w18 : ax_wI (ax_wI (ax_wI (ax_wI gi1 12 0 10 (n32 0)) 12 0 16 (n32 0)) 12 0 17 (n32 0)) 12 0 18 (-1) 12 0 18 = -1 := by simp [wI_at]
  have w15 : ax_wI (ax_wI (ax_wI (ax_wI gi1 12 0 10 (n32 0)) 12 0 16 (n32 0)) 12 0 17 (n32 0)) 12 0 18 (-1) 12 0 15 = n32 (lx B n).length := by simp [wI_at, h15]
  generalize ax_wI (ax_wI (ax_wI (ax_wI gi1 12 0 10 (n32 0)) 12 0 16 (n32 0)) 12 0 17 (n32 0)) 12 0 18 (-1) = gi2 at *
  apply rm_readClause (h := 33) (RdM_mono (by omega) (rm_sum _ _ _ (Nat.le_refl 8))) (rm_test _ _ _ (Nat.le_refl 8)) (by omega) (d + 35) gi2 g _ 0 0 0 (by omega) hG htok2 w18 w16 w17 (by omega) (by omega)
  · intro f gi' hk hfr h6 hfN
    have hbad' : ¬ gi' 12 0 18 = -1 := by
      rw [h6]
      exact TokM_bad htok2 hfN
    simp only [ax_psh_none, ax_psh_some, true_and, and_true, and_false, false_and, not_true_eq_false, not_false_eq_true, true_imp_iff, false_imp_iff, imp_self, or_true, true_or, or_false, false_or, and_self, ite_true, ite_false, if_true, if_false, b_M_reads_32]
    refine rm_bad_end (d := d + 33) _ hbad' ?_
    refine hf f _ (pLaw_f hk) (Fr_wI (Fr_trans fr2 (rmAll_rf (Fr_rf hfr))) rfl) ?_ ?_
    · simp only [wI_at, ax_psh_none, ax_psh_some, true_and, and_true, and_false, false_and, not_true_eq_false, not_false_eq_true, true_imp_iff, false_imp_iff, imp_self, or_true, true_or, or_false, false_or, and_self, ite_true, ite_false, if_true, if_false, reduceIte, Nat.reduceEqDiff, Nat.reduceLT, Nat.reduceAdd, Nat.reduceMul, Nat.reduceSub, Nat.reduceDiv, Nat.reduceMod, Nat.reduceLeDiff]
      rw [hfr 12 0 10 rfl, w10]
    · simp only [wI_at, ax_psh_none, ax_psh_some, true_and, and_true, and_false, false_and, not_true_eq_false, not_false_eq_true, true_imp_iff, false_imp_iff, imp_self, or_true, true_or, or_false, false_or, and_self, ite_true, ite_false, if_true, if_false, reduceIte, Nat.reduceEqDiff, Nat.reduceLT, Nat.reduceAdd, Nat.reduceMul, Nat.reduceSub, Nat.reduceDiv, Nat.reduceMod, Nat.reduceLeDiff]
      rw [h6, w7 72 0 f (by decide), hpl f hfN]
  · intro a' p' C gi' hk hfr hb' ha' hp' hl haN' hp50'
    simp only [ax_psh_none, ax_psh_some, true_and, and_true, and_false, false_and, not_true_eq_false, not_false_eq_true, true_imp_iff, false_imp_iff, imp_self, or_true, true_or, or_false, false_or, and_self, ite_true, ite_false, if_true, if_false, b_M_reads_32]
    refine rm_tail 11 (d + 35) gi' g Q a' p' (0 + C.2.2.1.length) 1 (by omega) (by omega) hG (TokM_fr htok2 hfr) hb' ha' hp' ?_ haN' hp50' ?_ ?_
    · rw [hfr 12 0 15 rfl, w15]
    · intro f gi'' q1 q2 q3 q4
      refine hf f gi'' (by rw [pLaw_succ hk, q1]; rfl) (Fr_trans fr2 (Fr_trans (rmAll_rf (Fr_rf hfr)) (rmAll_rf q2))) ?_ ?_
      · rw [q2 12 0 10 rfl, hfr 12 0 10 rfl, w10]
      · rw [q3, hfr 72 0 f rfl, w7 72 0 f (by decide), hpl f q4]
    · intro l gi'' q1 q2 q3
      refine hok (C :: l) gi'' (by rw [pLaw_succ hk, q1]; rfl) (Fr_trans fr2 (Fr_trans (rmAll_rf (Fr_rf hfr)) (rmAll_rf q2))) ?_ q3 ?_ ?_
      · rw [q2 12 0 10 rfl, hfr 12 0 10 rfl, w10]
      · rw [q2 12 0 15 rfl, hfr 12 0 15 rfl, w15]
      · intro i hi
        rw [q2 70 0 i rfl, hfr 70 0 i rfl, w7 70 0 i (by decide), q2 71 0 i rfl, hfr 71 0 i rfl, w7 71 0 i (by decide)]
        exact ⟨(htok.2.2 i (by omega)).2.1, hval i hi⟩
