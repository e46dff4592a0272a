theorem ax_nth_all (P : List (Nat × AI) → Bool) : ∀ (l : List (List (Nat × AI))) (n : Nat), n = l.length → (∀ i, i < n → P (ax_nth l i) = true) → l.all P = true
  | [], _, _, _ => rfl
  | c :: l, n, hn, h => by
    subst hn
    rw [List.all_cons, Bool.and_eq_true]
    exact ⟨h 0 (by simp), ax_nth_all P l l.length rfl (fun i hi => h (i + 1) (by simp; exact hi))⟩
theorem ax_ckr_255 : ax_ckr 255 1 = true := by
  have h : ax_ckm 255 = true := ax_nth_all (fun ch => ch.all (ax_ck 255)) (ax_code 255) 45 rfl (fun i hi => by
    match i, hi with
    | 0, _ => exact ax_ckl_0
    | 1, _ => exact ax_ckl_1
    | 2, _ => exact ax_ckl_2
    | 3, _ => exact ax_ckl_3
    | 4, _ => exact ax_ckl_4
    | 5, _ => exact ax_ckl_5
    | 6, _ => exact ax_ckl_6
    | 7, _ => exact ax_ckl_7
    | 8, _ => exact ax_ckl_8
    | 9, _ => exact ax_ckl_9
    | 10, _ => exact ax_ckl_10
    | 11, _ => exact ax_ckl_11
    | 12, _ => exact ax_ckl_12
    | 13, _ => exact ax_ckl_13
    | 14, _ => exact ax_ckl_14
    | 15, _ => exact ax_ckl_15
    | 16, _ => exact ax_ckl_16
    | 17, _ => exact ax_ckl_17
    | 18, _ => exact ax_ckl_18
    | 19, _ => exact ax_ckl_19
    | 20, _ => exact ax_ckl_20
    | 21, _ => exact ax_ckl_21
    | 22, _ => exact ax_ckl_22
    | 23, _ => exact ax_ckl_23
    | 24, _ => exact ax_ckl_24
    | 25, _ => exact ax_ckl_25
    | 26, _ => exact ax_ckl_26
    | 27, _ => exact ax_ckl_27
    | 28, _ => exact ax_ckl_28
    | 29, _ => exact ax_ckl_29
    | 30, _ => exact ax_ckl_30
    | 31, _ => exact ax_ckl_31
    | 32, _ => exact ax_ckl_32
    | 33, _ => exact ax_ckl_33
    | 34, _ => exact ax_ckl_34
    | 35, _ => exact ax_ckl_35
    | 36, _ => exact ax_ckl_36
    | 37, _ => exact ax_ckl_37
    | 38, _ => exact ax_ckl_38
    | 39, _ => exact ax_ckl_39
    | 40, _ => exact ax_ckl_40
    | 41, _ => exact ax_ckl_41
    | 42, _ => exact ax_ckl_42
    | 43, _ => exact ax_ckl_43
    | 44, _ => exact ax_ckl_44
    | i + 45, hi => exact absurd hi (by omega))
  unfold ax_ckr
  rw [show List.range 1 = [0] from rfl, List.all_cons, List.all_nil, Bool.and_true]
  exact h
theorem ax_ckr_use {lo n m : Nat} (h : ax_ckr lo n = true) (h1 : lo ≤ m) (h2 : m < lo + n) : ax_ckm m = true := by
  have h3 := List.all_eq_true.mp h (m - lo) (List.mem_range.mpr (by omega))
  rwa [show lo + (m - lo) = m by omega] at h3
theorem ax_ckm_all (m : Nat) (hm : m < 256) : ax_ckm m = true := by
  by_cases h0 : m < 11
  · exact ax_ckr_use ax_ckr_0 (by omega) (by omega)
  by_cases h11 : m < 28
  · exact ax_ckr_use ax_ckr_11 (by omega) (by omega)
  by_cases h28 : m < 45
  · exact ax_ckr_use ax_ckr_28 (by omega) (by omega)
  by_cases h45 : m < 58
  · exact ax_ckr_use ax_ckr_45 (by omega) (by omega)
  by_cases h58 : m < 74
  · exact ax_ckr_use ax_ckr_58 (by omega) (by omega)
  by_cases h74 : m < 86
  · exact ax_ckr_use ax_ckr_74 (by omega) (by omega)
  by_cases h86 : m < 95
  · exact ax_ckr_use ax_ckr_86 (by omega) (by omega)
  by_cases h95 : m < 105
  · exact ax_ckr_use ax_ckr_95 (by omega) (by omega)
  by_cases h105 : m < 118
  · exact ax_ckr_use ax_ckr_105 (by omega) (by omega)
  by_cases h118 : m < 131
  · exact ax_ckr_use ax_ckr_118 (by omega) (by omega)
  by_cases h131 : m < 142
  · exact ax_ckr_use ax_ckr_131 (by omega) (by omega)
  by_cases h142 : m < 153
  · exact ax_ckr_use ax_ckr_142 (by omega) (by omega)
  by_cases h153 : m < 157
  · exact ax_ckr_use ax_ckr_153 (by omega) (by omega)
  by_cases h157 : m < 172
  · exact ax_ckr_use ax_ckr_157 (by omega) (by omega)
  by_cases h172 : m < 180
  · exact ax_ckr_use ax_ckr_172 (by omega) (by omega)
  by_cases h180 : m < 195
  · exact ax_ckr_use ax_ckr_180 (by omega) (by omega)
  by_cases h195 : m < 206
  · exact ax_ckr_use ax_ckr_195 (by omega) (by omega)
  by_cases h206 : m < 214
  · exact ax_ckr_use ax_ckr_206 (by omega) (by omega)
  by_cases h214 : m < 226
  · exact ax_ckr_use ax_ckr_214 (by omega) (by omega)
  by_cases h226 : m < 237
  · exact ax_ckr_use ax_ckr_226 (by omega) (by omega)
  by_cases h237 : m < 245
  · exact ax_ckr_use ax_ckr_237 (by omega) (by omega)
  by_cases h245 : m < 250
  · exact ax_ckr_use ax_ckr_245 (by omega) (by omega)
  by_cases h250 : m < 255
  · exact ax_ckr_use ax_ckr_250 (by omega) (by omega)
  exact ax_ckr_use ax_ckr_255 (by omega) (by omega)
theorem ax_look_mem : ∀ (l : List (Nat × AI)) (pc : Nat), (ax_look l pc).1 ≠ 99 → (pc, ax_look l pc) ∈ l
  | [], _, h => absurd rfl h
  | (k, e) :: l, pc, h => by
    unfold ax_look at h ⊢
    cases hk : Nat.beq k pc with
    | true =>
      have := Nat.eq_of_beq_eq_true hk
      subst this
      exact List.mem_cons_self
    | false =>
      rw [hk] at h
      exact List.mem_cons_of_mem _ (ax_look_mem l pc h)
theorem ax_nth_mem : ∀ (l : List (List (Nat × AI))) (n : Nat) (q : Nat × AI), q ∈ ax_nth l n → ∃ ch ∈ l, q ∈ ch
  | [], _, q, h => by cases h
  | c :: l, 0, q, h => ⟨c, List.mem_cons_self, h⟩
  | c :: l, n + 1, q, h => by
    obtain ⟨ch, h1, h2⟩ := ax_nth_mem l n q h
    exact ⟨ch, List.mem_cons_of_mem _ h1, h2⟩
/-- an entry is what is there -/
theorem ax_ft_ok {m pc : Nat} (hm : m < 256) (h : (ax_ft m pc).1 ≠ 99) : decode (ax_bc m) pc = .ok (ax_enc pc (ax_ft m pc), (ax_ft m pc).2.1 - pc) ∧ ax_side m pc (ax_ft m pc) = true := by
  have h1 := ax_look_mem _ _ h
  obtain ⟨ch, h2, h3⟩ := ax_nth_mem _ _ _ h1
  have h4 := List.all_eq_true.mp (List.all_eq_true.mp (ax_ckm_all m hm) ch h2) _ h3
  change ax_ck m (pc, ax_ft m pc) = true at h4
  unfold ax_ck at h4
  rw [Bool.and_eq_true] at h4
  refine ⟨?_, h4.2⟩
  have h5 := h4.1
  cases hd : decode (ax_bc m) pc with
  | error x => rw [hd] at h5; cases h5
  | ok x =>
    obtain ⟨i, len⟩ := x
    rw [hd] at h5
    simp only [Bool.and_eq_true, decide_eq_true_eq] at h5
    have h6 := Nat.eq_of_beq_eq_true h5.2
    rw [h5.1]
    have : len = (ax_ft m pc).2.1 - pc := by
      have h7 : pc + len = (ax_ft m pc).2.1 := h6
      omega
    rw [this]
