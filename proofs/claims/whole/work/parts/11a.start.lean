/-! the law's start: what the Statement gives is an environment of the abstract machine -/
def wl_len : List Nat := [4, 3, 4, 4, 4, 5, 3, 5, 3, 6, 2, 2, 3, 3]
def wl_byt : List (List Int32) := [[108, 105, 107, 101], [111, 102, 102], [119, 105, 100, 101], [116, 97, 108, 108], [97, 114, 101, 97], [111, 119, 110, 101, 114], [100, 97, 121], [112, 97, 114, 116, 115], [116, 97, 120], [115, 112, 97, 114, 101, 115], [105, 102], [111, 114], [97, 110, 100], [110, 111, 116]]
def wl_stat : List (List Int32) := [[0, 0, 1, 5], [0, 0, 1, 0], [64, 99, 9, 999]]
def wl_tm (i : Nat) : Term := .string (ax_strs.getD i ("", 0, "")).1 (ax_strs.getD i ("", 0, "")).2.1
def wl_T : Cond := Jvm.Cond.and given_1 narrow_1
theorem wl_s1 : ∀ i, i < 14 → Cond.exactly (wl_tm i) "java/lang/String" ∈ flatC wl_T := by decide +kernel
theorem wl_s2 : ∀ i, i < 14 → Cond.eq (.field (wl_tm i) "java/lang/String" "coder" "B") (.int 0) ∈ flatC wl_T := by decide +kernel
theorem wl_s3 : ∀ i, i < 14 → Cond.arrayOf (.field (wl_tm i) "java/lang/String" "value" "[B") .byte ∈ flatC wl_T := by decide +kernel
theorem wl_s4 : ∀ i, i < 14 → Cond.eq (.length (.field (wl_tm i) "java/lang/String" "value" "[B")) (.int (Int32.ofNat (wl_len.getD i 0))) ∈ flatC wl_T := by decide +kernel
theorem wl_s5 : ∀ i, i < 14 → ∀ j, j < wl_len.getD i 0 → Cond.eq (.elem (.field (wl_tm i) "java/lang/String" "value" "[B") (.int (Int32.ofNat j))) (.int ((wl_byt.getD i []).getD j 0)) ∈ flatC wl_T := by decide +kernel
theorem wl_s7 : ∀ i, i < 14 → Cond.stringRef (ax_strs.getD i ("", 0, "")).1 (ax_strs.getD i ("", 0, "")).2.1 (ax_strs.getD i ("", 0, "")).2.2 ∈ lw_tbl := by decide +kernel
def wl_st (a : Nat) : Term := .static "SymmetryTax" (ax_sn a) "[I"
theorem wl_t1 : ∀ a, a < 3 → Cond.arrayOf (wl_st a) .int ∈ flatC wl_T ∧ Cond.eq (.length (wl_st a)) (.int (Int32.ofNat 4)) ∈ flatC wl_T := by decide +kernel
theorem wl_t2 : ∀ a, a < 3 → ∀ j, j < 4 → Cond.eq (.elem (wl_st a) (.int (Int32.ofNat j))) (.int ((wl_stat.getD a []).getD j 0)) ∈ flatC wl_T := by decide +kernel
theorem wl_t3 : ∀ a, a < 3 → Cond.laysStatic "SymmetryTax" (ax_sn a) "[I" ∈ lw_tbl := by decide +kernel
theorem wl_t4 : Cond.laysStatic "java/lang/String" "COMPACT_STRINGS" "Z" ∈ lw_tbl ∧ Cond.laysStatic "jdk/internal/util/Preconditions" "SIOOBE_FORMATTER" "Ljava/util/function/BiFunction;" ∈ lw_tbl ∧ Cond.initialized "SymmetryTax" ∈ lw_tbl ∧ Cond.initialized "java/lang/String" ∈ lw_tbl ∧ Cond.initialized "jdk/internal/util/Preconditions" ∈ lw_tbl := by decide +kernel
theorem wl_t5 : Cond.eq (.static "java/lang/String" "COMPACT_STRINGS" "Z") (.int 1) ∈ flatC wl_T ∧ Cond.isRef (.static "jdk/internal/util/Preconditions" "SIOOBE_FORMATTER" "Ljava/util/function/BiFunction;") ∈ flatC wl_T := by decide +kernel
theorem wl_t6 : Cond.arrayOver (.object "SymmetryTax$Thing") ∈ lw_tbl ∧ Cond.arrayOver (.object "SymmetryTax$Books") ∈ lw_tbl ∧ Cond.arrayOver (.object "SymmetryTax$Paper") ∈ lw_tbl ∧ Cond.arrayOver (.object "SymmetryTax$Law") ∈ lw_tbl ∧ Cond.arrayOver (.array .int) ∈ lw_tbl := by decide +kernel
theorem wl_t7 : ∀ w ∈ ax_nw, w ∈ lw_tbl ∧ w.onTables = true := by decide +kernel
def wl_gi (xs : Nat → Int32) (s a j : Nat) : Int32 := cond (Nat.beq s x_stat) ((wl_stat.getD a []).getD j 0) (cond (Nat.beq s x_bytes) ((wl_byt.getD a []).getD j 0) (cond (Nat.beq s x_script) (xs j) 0))
def wl_ff (s a j : Nat) : AR := cond (Nat.ble 100 s) none (cond (Nat.beq s 0 && Nat.beq j 0) (some (1, a)) (cond (Nat.beq s 0 && Nat.beq j 1) (some (20, a)) (cond (Nat.beq s 0 && Nat.beq j 2) (some (11, a)) (cond (Nat.beq s 0 && Nat.beq j 3) (some (22, a)) (cond (Nat.beq s 0 && Nat.beq j 7) (some (23, a)) (cond (Nat.beq s 0 && Nat.beq j 10) (some (24, a)) (cond (Nat.beq s 0 && Nat.beq j 12) (some (25, a)) (cond (Nat.beq s 0 && Nat.beq j 13) (some (6, a)) (cond (Nat.beq s 0 && Nat.beq j 14) (some (7, a)) (cond (Nat.beq s 0 && Nat.beq j 15) (some (8, a)) (cond (Nat.beq s 0 && Nat.beq j 16) (some (9, a)) (cond (Nat.beq s 0 && Nat.beq j 17) (some (10, a)) (cond (Nat.beq s 1 && Nat.beq j 0) (some (26, a)) (cond (Nat.beq s 1 && Nat.beq j 2) (some (27, a)) (cond (Nat.beq s 1 && Nat.beq j 5) (some (28, a)) (cond (Nat.beq s 2 && Nat.beq j 4) (some (29, a)) (cond (Nat.beq s 2 && Nat.beq j 5) (some (30, a)) (cond (Nat.beq s 3 && Nat.beq j 5) (some (54, a)) (cond (Nat.beq s 3 && Nat.beq j 6) (some (55, a)) (cond (Nat.beq s 3 && Nat.beq j 7) (some (56, a)) (cond (Nat.beq s 3 && Nat.beq j 8) (some (57, a)) (cond (Nat.beq s 3 && Nat.beq j 9) (some (58, a)) (cond (Nat.beq s 4 && Nat.beq j 1) (some (62, 3 * a)) (cond (Nat.beq s 4 && Nat.beq j 2) (some (60, a)) (cond (Nat.beq s 4 && Nat.beq j 3) (some (61, a)) (cond (Nat.beq s 4 && Nat.beq j 4) (some (62, 3 * a + 1)) (cond (Nat.beq s 4 && Nat.beq j 5) (some (62, 3 * a + 2)) (cond (Nat.beq s 5 && Nat.beq j 0) (some (41, a)) (cond (Nat.beq s 5 && Nat.beq j 1) (some (42, a)) (cond (Nat.beq s 6 && Nat.beq j 0) (some (31, a)) (cond (Nat.beq s 6 && Nat.beq j 1) (some (32, a)) (cond (Nat.beq s 6 && Nat.beq j 2) (some (33, a)) (cond (Nat.beq s 6 && Nat.beq j 9) (some (34, a)) (cond (Nat.beq s 6 && Nat.beq j 10) (some (35, a)) (cond (Nat.beq s 6 && Nat.beq j 11) (some (36, a)) (cond (Nat.beq s 6 && Nat.beq j 12) (some (37, a)) (cond (Nat.beq s 6 && Nat.beq j 13) (some (38, a)) (cond (Nat.beq s 7 && Nat.beq j 0) (some (5, a)) (cond (Nat.beq s 7 && Nat.beq j 5) (some (39, a)) (cond (Nat.beq s 8 && Nat.beq j 8) (some (43, a)) (cond (Nat.beq s 8 && Nat.beq j 9) (some (44, a)) (cond (Nat.beq s 9 && Nat.beq j 8) (some (45, a)) (cond (Nat.beq s 9 && Nat.beq j 9) (some (46, a)) (cond (Nat.beq s 10 && Nat.beq j 7) (some (47, a)) (cond (Nat.beq s 10 && Nat.beq j 8) (some (49, a)) (cond (Nat.beq s 10 && Nat.beq j 9) (some (50, a)) (cond (Nat.beq s 10 && Nat.beq j 10) (some (51, a)) (cond (Nat.beq s 10 && Nat.beq j 11) (some (52, a)) (cond (Nat.beq s 11 && Nat.beq j 0) (some (53, a)) (cond (Nat.beq s 12 && Nat.beq j 2) (some (63, a)) (cond (Nat.beq s 12 && Nat.beq j 3) (some (64, a)) (cond (Nat.beq s 12 && Nat.beq j 4) (some (65, a)) (cond (Nat.beq s 12 && Nat.beq j 5) (some (66, a)) (cond (Nat.beq s 12 && Nat.beq j 7) (some (67, a)) (cond (Nat.beq s 12 && Nat.beq j 8) (some (68, a)) (cond (Nat.beq s 12 && Nat.beq j 9) (some (69, a)) (cond (Nat.beq s 12 && Nat.beq j 12) (some (70, a)) (cond (Nat.beq s 12 && Nat.beq j 13) (some (71, a)) (cond (Nat.beq s 12 && Nat.beq j 14) (some (72, a)) (cond (Nat.beq s 12 && Nat.beq j 22) (some (73, a)) (cond (Nat.beq s 12 && Nat.beq j 23) (some (74, a)) (cond (Nat.beq s 12 && Nat.beq j 29) (some (75, a)) (cond (Nat.beq s 12 && Nat.beq j 30) (some (76, a)) (cond (Nat.beq s 12 && Nat.beq j 31) (some (77, a)) (cond (Nat.beq s 12 && Nat.beq j 37) (some (78, a)) (cond (Nat.beq s 12 && Nat.beq j 38) (some (79, a)) (cond (Nat.beq s 12 && Nat.beq j 39) (some (80, a)) (cond (Nat.beq s 12 && Nat.beq j 40) (some (81, a)) (cond (Nat.beq s 12 && Nat.beq j 41) (some (82, a)) (cond (Nat.beq s 12 && Nat.beq j 43) (some (83, a)) (cond (Nat.beq s 12 && Nat.beq j 46) (some (84, a)) (cond (Nat.beq s 12 && Nat.beq j 47) (some (85, a)) (cond (Nat.beq s 12 && Nat.beq j 48) (some (86, a)) (cond (Nat.beq s 25) (some (3, j)) (cond (Nat.beq s 26) (some (2, 6 * a + j)) (cond (Nat.beq s 47) (some (48, 6 * a + j)) (cond (Nat.beq s 58) (some (59, 8 * a + j)) (none))))))))))))))))))))))))))))))))))))))))))))))))))))))))))))))))))))))))))))))
def wl_gr (fo : AR) (s a j : Nat) : AR := cond (Nat.beq s x_str) (cond (Nat.beq j 1) (some (x_bytes, a)) none) (cond (Nat.beq s x_fmt) fo (wl_ff s a j))
def wl_gn (s : Nat) : Nat := cond (Nat.beq s x_stat) 3 (cond (Nat.beq s x_str) 14 (cond (Nat.beq s x_bytes) 14 (cond (Nat.beq s x_script || Nat.beq s x_fmt || Nat.beq s x_fob) 1 0)))
def wl_gl (L s a : Nat) : Nat := cond (Nat.beq s x_script) L (cond (Nat.beq s x_bytes) (wl_len.getD a 0) 0)
def wl_h0 (L : Nat) (xs : Nat → Int32) (fo : AR) : AH := (wl_gi xs, wl_gr fo, wl_gn, wl_gl L, 0, 0)
def wl_ro (st adK adV : Nat → Nat) (b fb : Nat) (s a : Nat) : Nat := cond (Nat.beq s x_stat) (st a) (cond (Nat.beq s x_str) (adK a) (cond (Nat.beq s x_bytes) (adV a) (cond (Nat.beq s x_script) b fb)))
theorem wl_gn_own {s : Nat} (h : ax_own s) : wl_gn s = 0 := by
  by_cases e : s < 106
  · have : ∀ s, s < 106 → (ax_sk s).1 < 2 → wl_gn s = 0 := by decide +kernel
    exact this s e h
  · have := ax_sk_big (s := s) (by omega)
    unfold ax_own at h
    rw [this] at h
    exact absurd h (by decide)
theorem wl_gn_big {s : Nat} (h : 106 ≤ s) : wl_gn s = 0 := by
  have hk : ∀ k, k ≤ 105 → Nat.beq s k = false := fun k hk => Bool.eq_false_iff.mpr (fun q => absurd (Nat.eq_of_beq_eq_true q) (by omega))
  unfold wl_gn
  rw [hk x_stat (by decide), hk x_str (by decide), hk x_bytes (by decide), hk x_script (by decide), hk x_fmt (by decide), hk x_fob (by decide)]
  rfl
theorem wl_sk2 {s : Nat} (h : (ax_sk s).1 = 2) (hn : 0 < wl_gn s) : s = x_stat ∨ s = x_bytes ∨ s = x_script := by
  by_cases e : s < 106
  · have : ∀ s, s < 106 → (ax_sk s).1 = 2 → 0 < wl_gn s → s = x_stat ∨ s = x_bytes ∨ s = x_script := by decide +kernel
    exact this s e h hn
  · rw [wl_gn_big (by omega)] at hn
    omega
theorem wl_wd {D : va_G} {dA : Nat → ClassId} {H : Heap} {L : Nat} {xs : Nat → Int32} {fo : AR} (hfo : fo = none ∨ fo = some (x_fob, 0)) {ro : Nat → Nat → Nat} : ax_wd D dA H (wl_h0 L xs fo) ro ro (wl_h0 L xs fo) H := by
  refine ⟨fun s a hs ha => ?_, fun s a t b hs ht ha hb _ => ?_, fun s a ha j hj t b hr => ?_, ⟨Nat.le_refl _, fun _ _ => rfl⟩, fun _ _ => ⟨rfl, rfl, rfl, rfl⟩, fun _ _ _ => rfl⟩
  · have e : (wl_h0 L xs fo).2.2.1 s = 0 := wl_gn_own hs
    omega
  · have e : (wl_h0 L xs fo).2.2.1 s = 0 := wl_gn_own hs
    omega
  · have hr : wl_gr fo s a j = some (t, b) := hr
    have ha : a < wl_gn s := ha
    show b < wl_gn t
    unfold wl_gr at hr
    cases e1 : Nat.beq s x_str with
    | true =>
      rw [e1] at hr
      have e1 := Nat.eq_of_beq_eq_true e1
      subst e1
      cases e2 : Nat.beq j 1 with
      | true =>
        rw [e2] at hr
        cases hr
        exact ha
      | false =>
        rw [e2] at hr
        cases hr
    | false =>
      rw [e1] at hr
      cases e2 : Nat.beq s x_fmt with
      | true =>
        rw [e2] at hr
        have hr : fo = some (t, b) := hr
        rcases hfo with h | h
        · rw [h] at hr
          cases hr
        · rw [h] at hr
          cases hr
          decide
      | false =>
        rw [e2] at hr
        have hr : wl_ff s a j = some (t, b) := hr
        cases e3 : Nat.ble 100 s with
        | true =>
          unfold wl_ff at hr
          rw [e3] at hr
          cases hr
        | false =>
          have h5 : s < 100 := Nat.lt_of_not_le (fun q => by rw [Nat.ble_eq.mpr q] at e3; cases e3)
          have h6 : ∀ s, s < 100 → wl_gn s = 0 := by decide +kernel
          rw [h6 s h5] at ha
          omega
theorem wl_AT {args : Array Value} {s : State} (hts : ∀ w ∈ lw_tbl, w.before args s = true) : ∃ dA : Nat → ClassId, ∀ t, t < 9 → ArrOfT s (dA t) (ax_t2 t) ∧ va_RA s (dA t) (ax_t2 t) := by
  have hp : ∀ ty : FieldType, Cond.arrayClass ty ∈ lw_all → (∀ C, ty ≠ .object C) → ∃ cA, ArrOfT s cA ty ∧ va_RA s cA ty := by
    intro ty hw hc
    obtain ⟨c, k, comp, h1, h2, h3⟩ := Cond.arrayClass_spec (hts _ (ax_all_in hw))
    refine ⟨c, fun n z => ⟨fun k h => (by cases h), k, h2, comp, h3⟩, ?_⟩
    cases ty with
    | object C => exact absurd rfl (hc C)
    | _ => exact h1
  have ho : ∀ C : String, Cond.arrayOver (.object C) ∈ lw_tbl → ∃ cA, ArrOfT s cA (.object C) ∧ va_RA s cA (.object C) := by
    intro C hw
    obtain ⟨comp, c, k, h1, -, h3, h4, h5⟩ := Cond.arrayOver_spec (hts _ hw)
    exact ⟨c, fun n z => ⟨fun k h => (by cases h), k, h3, comp, h4⟩, k, comp, h3, h4, h1, h5⟩
  have ha : ∃ cA, ArrOfT s cA (.array .int) ∧ va_RA s cA (.array .int) := by
    obtain ⟨comp, c, k, h1, -, h3, h4, h5⟩ := arrayOverA_spec (hts _ wl_t6.2.2.2.2)
    exact ⟨c, fun n z => ⟨fun k h => (by cases h), k, h3, comp, h4⟩, h5⟩
  have hall : ∀ t : Nat, ∃ cA, t < 9 → ArrOfT s cA (ax_t2 t) ∧ va_RA s cA (ax_t2 t) := by
    intro t
    by_cases ht : t < 9
    · match t, ht with
      | 0, _ => exact (hp .int ax_w_ar.1 (fun C h => by cases h)).imp (fun _ h _ => h)
      | 1, _ => exact (hp .byte ax_w_ar.2.1 (fun C h => by cases h)).imp (fun _ h _ => h)
      | 2, _ => exact (hp .boolean ax_w_ar.2.2 (fun C h => by cases h)).imp (fun _ h _ => h)
      | 3, _ => exact (ho _ wl_t6.1).imp (fun _ h _ => h)
      | 4, _ => exact (ho _ wl_t6.2.1).imp (fun _ h _ => h)
      | 5, _ => exact (ho _ wl_t6.2.2.1).imp (fun _ h _ => h)
      | 6, _ => exact (ho _ wl_t6.2.2.2.1).imp (fun _ h _ => h)
      | 7, _ => exact ha.imp (fun _ h _ => h)
      | 8, _ => exact (hp .long ax_w_al (fun C h => by cases h)).imp (fun _ h _ => h)
    · exact ⟨0, fun h => absurd h ht⟩
  exact Classical.axiomOfChoice hall
theorem wl_DD {args : Array Value} {s : State} (hts : ∀ w ∈ lw_tbl, w.before args s = true) : ∃ D : va_G, ∀ c, c < 13 → u_Kn s (ax_cn c) (ax_T c) (ax_N c) (D.1 c) (D.2 c) := by
  have hall : ∀ c : Nat, ∃ q : ClassId × (Nat → Nat), c < 13 → u_Kn s (ax_cn c) (ax_T c) (ax_N c) q.1 q.2 := by
    intro c
    by_cases hc : c < 13
    · obtain ⟨h1, h2, -⟩ := ax_cl_use hc
      obtain ⟨cC, iS, h⟩ := u_known (ws := lw_all) (fun w hw => hts w (ax_all_in hw)) h1 (hts _ (ax_all_in h2))
      exact ⟨(cC, iS), fun _ => h⟩
    · exact ⟨(0, fun _ => 0), fun h => absurd h hc⟩
  obtain ⟨f, hf⟩ := Classical.axiomOfChoice hall
  exact ⟨(fun c => (f c).1, fun c => (f c).2), hf⟩
set_option maxHeartbeats 1000000 in
theorem wl_env {args : Array Value} {s : State} {b L : Nat} {xs : Nat → Int32} (hL : L ≤ 3072) (hts : ∀ w ∈ lw_tbl, w.before args s = true) (hX : va_X b L xs s s.heap) (hb : b < s.heap.size) (hg : wl_T.before args s = true) :
    ∃ (D : va_G) (dA : Nat → ClassId) (ro : Nat → Nat → Nat) (fo : AR), (fo = none ∨ fo = some (x_fob, 0)) ∧ ro x_script 0 = b ∧ ax_env D dA s.heap (wl_h0 L xs fo) ro s := by
  obtain ⟨D, hD⟩ := wl_DD hts
  obtain ⟨dA, hdA⟩ := wl_AT hts
  have hf := flat_of_before _ hg
  have hA : ∀ a : Nat, a < s.heap.size → ¬ ax_A s.heap a := fun a ha h => absurd ha (Nat.not_lt.mpr h)
  have hstr : ∀ i : Nat, ∃ q : Nat × Nat, i < 14 → (wl_tm i).eval args s none [] s = some (.ref q.1) ∧ va_O "java/lang/String" q.1 (ax_A s.heap) s s.heap ∧ va_OF "java/lang/String" "coder" "B" (.int 0) q.1 (ax_A s.heap) s s.heap ∧ va_OF "java/lang/String" "value" "[B" (.ref q.2) q.1 (ax_A s.heap) s s.heap ∧ va_T .byte q.2 (wl_len.getD i 0) (fun j => .int ((wl_byt.getD i []).getD j 0)) (ax_A s.heap) s s.heap := by
    intro i
    by_cases hi : i < 14
    · obtain ⟨a, c, cA, kA, q1, q2, q3, q4, q5, q6, -⟩ := Cond.exactly_spec (hf _ (wl_s1 i hi))
      obtain ⟨t, ht, hT⟩ := va_Tof (args := args) (s := s) (tm := .field (wl_tm i) "java/lang/String" "value" "[B") (ty := .byte) (N := wl_len.getD i 0) (f := fun j => .int ((wl_byt.getD i []).getD j 0)) (A := ax_A s.heap) ((by decide : ∀ i, i < 14 → wl_len.getD i 0 < 2 ^ 31) i hi) (hf _ (wl_s3 i hi)) (va_eqt (hf _ (wl_s4 i hi))) (fun j hj => va_eqt (hf _ (wl_s5 i hi j hj))) hA
      exact ⟨(a, t), fun _ => ⟨q1, ⟨cA, q3, q5, by rw [q6]; exact q2, hA a (Array.getElem?_eq_some_iff.mp q3).1⟩, vk_OFof q1 (va_eqt (hf _ (wl_s2 i hi))) hA, vk_OFof q1 ht hA, hT⟩⟩
    · exact ⟨(0, 0), fun h => absurd h hi⟩
  obtain ⟨ad, had⟩ := Classical.axiomOfChoice hstr
  have hst : ∀ a : Nat, ∃ t : Nat, a < 3 → (wl_st a).eval args s none [] s = some (.ref t) ∧ va_T .int t 4 (fun j => .int ((wl_stat.getD a []).getD j 0)) (ax_A s.heap) s s.heap := by
    intro a
    by_cases ha : a < 3
    · obtain ⟨t, h1, h2⟩ := va_Tof (args := args) (s := s) (tm := wl_st a) (ty := .int) (N := 4) (f := fun j => .int ((wl_stat.getD a []).getD j 0)) (A := ax_A s.heap) (by decide) (hf _ (wl_t1 a ha).1) (va_eqt (hf _ (wl_t1 a ha).2)) (fun j hj => va_eqt (hf _ (wl_t2 a ha j hj))) hA
      exact ⟨t, fun _ => ⟨h1, h2⟩⟩
    · exact ⟨0, fun h => absurd h ha⟩
  obtain ⟨st, hst⟩ := Classical.axiomOfChoice hst
  obtain ⟨v, hv, hvr⟩ := Cond.isRef_spec (hf _ wl_t5.2)
  obtain ⟨fo, fb, hfo, hvf⟩ : ∃ (fo : AR) (fb : Nat), (fo = none ∨ fo = some (x_fob, 0)) ∧ ∀ st' adK' adV' : Nat → Nat, v = ax_rv (wl_ro st' adK' adV' b fb) fo := by
    cases v with
    | null => exact ⟨none, 0, Or.inl rfl, fun _ _ _ => rfl⟩
    | ref a => exact ⟨some (x_fob, 0), a, Or.inr rfl, fun _ _ _ => rfl⟩
    | _ => cases hvr
  refine ⟨D, dA, wl_ro st (fun a => (ad a).1) (fun a => (ad a).2) b fb, fo, hfo, rfl, ⟨fun c q hq => ?_, fun k q hq => ?_⟩, fun w hw => va_Nw.of (wl_t7 w hw).2 (hts w (wl_t7 w hw).1), fun t a ht ha => ?_, fun a ha => ?_, ⟨fun a ha => ?_, ?_, ?_⟩, ⟨rfl, rfl, rfl, ?_, ?_⟩, fun a ha => ?_, va_AO.of (hts _ wl_t6.1), va_AO.of (hts _ wl_t6.2.1), va_AO.of (hts _ wl_t6.2.2.1), va_AO.of (hts _ wl_t6.2.2.2.1), hts _ wl_t6.2.2.2.2⟩
  · unfold ax_cls at hq
    rw [List.getElem?_map, Option.map_eq_some_iff] at hq
    obtain ⟨c', hc', rfl⟩ := hq
    obtain ⟨hlt, he⟩ := List.getElem?_eq_some_iff.mp hc'
    rw [List.getElem_range] at he
    subst he
    exact hD c (by simpa using hlt)
  · unfold ax_tys at hq
    rw [List.getElem?_map, Option.map_eq_some_iff] at hq
    obtain ⟨c', hc', rfl⟩ := hq
    obtain ⟨hlt, he⟩ := List.getElem?_eq_some_iff.mp hc'
    rw [List.getElem_range] at he
    subst he
    exact hdA k (by simpa using hlt)
  · have ha : a < wl_gn t := ha
    rcases wl_sk2 ht (by omega) with rfl | rfl | rfl
    · exact (hst a ha).2
    · exact (had a ha).2.2.2.2
    · have e : a = 0 := by
        have : wl_gn x_script = 1 := rfl
        omega
      subst e
      obtain ⟨scr, h1, h2, h3, h4, h5⟩ := hX
      exact ⟨scr, h1, h2, h3, by rw [h4]; exact Nat.le_refl _, by rw [h4]; rfl, h5, hA b hb⟩
  · have ha : a < 14 := ha
    exact ⟨(had a ha).2.1, (had a ha).2.2.1, (had a ha).2.2.2.1⟩
  · exact va_Zof (hts _ (wl_t3 a ha)) (hts _ wl_t4.2.2.1) (hst a ha).1 hA
  · exact va_Zof (hts _ wl_t4.1) (hts _ wl_t4.2.2.2.1) (va_eqt (hf _ wl_t5.1)) hA
  · refine va_Zof (hts _ wl_t4.2.1) (hts _ wl_t4.2.2.2.2) ?_ hA
    rw [hv]
    exact congrArg some (hvf st _ _)
  · intro a j t q hr
    have hr : wl_gr fo x_str a j = some (t, q) := hr
    unfold wl_gr at hr
    cases e2 : Nat.beq j 1 with
    | true =>
      rw [e2] at hr
      cases hr
      unfold ax_own
      decide
    | false =>
      rw [e2] at hr
      cases hr
  · intro a j t q hr
    have hr : fo = some (t, q) := hr
    rcases hfo with h | h
    · rw [h] at hr
      cases hr
    · rw [h] at hr
      cases hr
      unfold ax_own
      decide
  · exact vk_R.of (hts _ (wl_s7 a ha)) (had a ha).1
