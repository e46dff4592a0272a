theorem ax_mp_0 : (List.range 30).all (fun i => ax_mpok (0 + i)) = true := by decide +kernel
theorem ax_mp_30 : (List.range 30).all (fun i => ax_mpok (30 + i)) = true := by decide +kernel
theorem ax_mp_60 : (List.range 30).all (fun i => ax_mpok (60 + i)) = true := by decide +kernel
theorem ax_mp_90 : (List.range 30).all (fun i => ax_mpok (90 + i)) = true := by decide +kernel
theorem ax_mp_120 : (List.range 30).all (fun i => ax_mpok (120 + i)) = true := by decide +kernel
theorem ax_mp_150 : (List.range 30).all (fun i => ax_mpok (150 + i)) = true := by decide +kernel
theorem ax_mp_180 : (List.range 30).all (fun i => ax_mpok (180 + i)) = true := by decide +kernel
theorem ax_mp_210 : (List.range 30).all (fun i => ax_mpok (210 + i)) = true := by decide +kernel
theorem ax_mp_240 : (List.range 15).all (fun i => ax_mpok (240 + i)) = true := by decide +kernel
theorem ax_mp_all (m : Nat) (hm : m < 255) : ax_mpok m = true := by
  by_cases h0 : m < 30
  · exact by have h := List.all_eq_true.mp ax_mp_0 (m - 0) (List.mem_range.mpr (by omega)); rwa [show 0 + (m - 0) = m by omega] at h
  by_cases h30 : m < 60
  · exact by have h := List.all_eq_true.mp ax_mp_30 (m - 30) (List.mem_range.mpr (by omega)); rwa [show 30 + (m - 30) = m by omega] at h
  by_cases h60 : m < 90
  · exact by have h := List.all_eq_true.mp ax_mp_60 (m - 60) (List.mem_range.mpr (by omega)); rwa [show 60 + (m - 60) = m by omega] at h
  by_cases h90 : m < 120
  · exact by have h := List.all_eq_true.mp ax_mp_90 (m - 90) (List.mem_range.mpr (by omega)); rwa [show 90 + (m - 90) = m by omega] at h
  by_cases h120 : m < 150
  · exact by have h := List.all_eq_true.mp ax_mp_120 (m - 120) (List.mem_range.mpr (by omega)); rwa [show 120 + (m - 120) = m by omega] at h
  by_cases h150 : m < 180
  · exact by have h := List.all_eq_true.mp ax_mp_150 (m - 150) (List.mem_range.mpr (by omega)); rwa [show 150 + (m - 150) = m by omega] at h
  by_cases h180 : m < 210
  · exact by have h := List.all_eq_true.mp ax_mp_180 (m - 180) (List.mem_range.mpr (by omega)); rwa [show 180 + (m - 180) = m by omega] at h
  by_cases h210 : m < 240
  · exact by have h := List.all_eq_true.mp ax_mp_210 (m - 210) (List.mem_range.mpr (by omega)); rwa [show 210 + (m - 210) = m by omega] at h
  exact by have h := List.all_eq_true.mp ax_mp_240 (m - 240) (List.mem_range.mpr (by omega)); rwa [show 240 + (m - 240) = m by omega] at h
def ax_good (w : Cond) : Bool := goodWord w
theorem ax_in_all {i : Nat} {w : Cond} (h : lw_tbl[i]? = some w) (hg : goodWord w = true) : w ∈ lw_all := List.mem_filter.mpr ⟨List.mem_of_getElem? h, hg⟩
theorem ax_all_in {w : Cond} (h : w ∈ lw_all) : w ∈ lw_tbl := (List.mem_filter.mp h).1
def ax_ctok (j : Nat) : Bool := decide (lw_tbl[(ax_ctj j).2.2.2]? = some (Cond.constant (ax_cn (ax_ctj j).1) (ax_ctj j).2.1 (ax_ctj j).2.2.1))
theorem ax_ct_all : (List.range 6).all ax_ctok = true := by decide +kernel
def ax_ltok (j : Nat) : Bool := decide (lw_tbl[(ax_ltj j).2.2.2]? = some (Cond.constantLong (ax_cn (ax_ltj j).1) (ax_ltj j).2.1 (ax_ltj j).2.2.1.toInt64))
theorem ax_lt_all : (List.range 10).all ax_ltok = true := by decide +kernel
def ax_ktok (j : Nat) : Bool := decide (lw_tbl[(ax_ktj j).2.2.2]? = some (Cond.classLink (ax_cn (ax_ktj j).1) (ax_ktj j).2.1 (ax_ktj j).2.2.1))
theorem ax_kt_all : (List.range 17).all ax_ktok = true := by decide +kernel
/-- classes: their fields are laid, they can be made -/
def ax_clok (c : Nat) : Bool := (List.range (ax_N c)).all (fun k => decide (u_lay (ax_cn c) (ax_T c) k ∈ lw_all)) && (decide (Cond.instantiable (ax_cn c) (ax_N c) ∈ lw_all) && (decide (Cond.initialized (ax_cn c) ∈ lw_all) && ((List.range (ax_N c)).all (fun k => (parseFieldDescriptor (ax_T c k).2.2.1).isSome && decide ((ax_T c k).1 = ax_cn c)) && ((List.range (ax_N c)).all (fun i => (List.range (ax_N c)).all (fun j => Nat.beq i j || decide ((ax_T c i).2.1 ≠ (ax_T c j).2.1)))))))
theorem ax_cl_0 : ax_clok 0 = true := by decide +kernel
theorem ax_cl_1 : ax_clok 1 = true := by decide +kernel
theorem ax_cl_2 : ax_clok 2 = true := by decide +kernel
theorem ax_cl_3 : ax_clok 3 = true := by decide +kernel
theorem ax_cl_4 : ax_clok 4 = true := by decide +kernel
theorem ax_cl_5 : ax_clok 5 = true := by decide +kernel
theorem ax_cl_6 : ax_clok 6 = true := by decide +kernel
theorem ax_cl_7 : ax_clok 7 = true := by decide +kernel
theorem ax_cl_8 : ax_clok 8 = true := by decide +kernel
theorem ax_cl_9 : ax_clok 9 = true := by decide +kernel
theorem ax_cl_10 : ax_clok 10 = true := by decide +kernel
theorem ax_cl_11 : ax_clok 11 = true := by decide +kernel
theorem ax_cl_12 : ax_clok 12 = true := by decide +kernel
theorem ax_cl_all (c : Nat) (hc : c < 13) : ax_clok c = true := by
  match c, hc with
  | 0, _ => exact ax_cl_0
  | 1, _ => exact ax_cl_1
  | 2, _ => exact ax_cl_2
  | 3, _ => exact ax_cl_3
  | 4, _ => exact ax_cl_4
  | 5, _ => exact ax_cl_5
  | 6, _ => exact ax_cl_6
  | 7, _ => exact ax_cl_7
  | 8, _ => exact ax_cl_8
  | 9, _ => exact ax_cl_9
  | 10, _ => exact ax_cl_10
  | 11, _ => exact ax_cl_11
  | 12, _ => exact ax_cl_12
theorem ax_w_oi : Cond.instanceMethod objectInit ∈ lw_all ∧ Cond.code objectInit ⟨#[0xb1]⟩ 1 none ∈ lw_all := by decide +kernel
theorem ax_w_ac : Cond.native arraycopyName ∈ lw_all ∧ Cond.static arraycopyName ∈ lw_all ∧ Cond.initialized "java/lang/System" ∈ lw_all := by decide +kernel
theorem ax_w_cl : Cond.sameMethod "[I" "java/lang/Object" "clone" "()Ljava/lang/Object;" ∈ lw_all ∧ Cond.native ⟨"java/lang/Object", "clone", "()Ljava/lang/Object;"⟩ ∈ lw_all ∧ Cond.instanceMethod ⟨"java/lang/Object", "clone", "()Ljava/lang/Object;"⟩ ∈ lw_all ∧ Cond.selects "[I" ⟨"[I", "clone", "()Ljava/lang/Object;"⟩ ⟨"java/lang/Object", "clone", "()Ljava/lang/Object;"⟩ ∈ lw_all := by decide +kernel
theorem ax_w_ar : Cond.arrayClass .int ∈ lw_all ∧ Cond.arrayClass .byte ∈ lw_all ∧ Cond.arrayClass .boolean ∈ lw_all := by decide +kernel
theorem ax_w_al : Cond.arrayClass .long ∈ lw_all := by decide +kernel
