/-! a stamp and a tax in one long -/
def n64 (k : Nat) : Int64 := Int64.ofNat k
theorem n64_v (k : Nat) : n64 k = lv (k : Int) := Int64.ofInt_eq_ofNat.symm
theorem n64_of {a : Nat} (h : a < 2147483648) : (n32 a).toInt64 = n64 a := (lo_n h).trans (n64_v a).symm
theorem n64_tn (a : Nat) : (n64 a).toBitVec.toNat = a % 18446744073709551616 := by
  unfold n64
  rw [Int64.toBitVec_ofNat', BitVec.toNat_ofNat]
theorem n64_ext {x : Int64} {a : Nat} (h : x.toBitVec.toNat = a % 18446744073709551616) : x = n64 a := Int64.toBitVec_inj.mp (BitVec.eq_of_toNat_eq (h.trans (n64_tn a).symm))
theorem n64_shl (a : Nat) : n64 a <<< (10 : Int64) = n64 (1024 * a) := n64_ext (by
  rw [Int64.toBitVec_shiftLeft, show ((10 : Int64).toBitVec.smod 64) = 10#64 from by decide, BitVec.shiftLeft_eq', BitVec.toNat_shiftLeft, n64_tn, show (10#64 : BitVec 64).toNat = 10 from rfl, Nat.shiftLeft_eq]
  omega)
theorem n64_shr {a : Nat} (h : a < 9223372036854775808) : n64 a >>> (10 : Int64) = n64 (a / 1024) := n64_ext (by
  have hm : (n64 a).toBitVec.msb = false := by
    rw [BitVec.msb_eq_decide, n64_tn, decide_eq_false_iff_not]
    omega
  rw [Int64.toBitVec_shiftRight]
  show ((n64 a).toBitVec.sshiftRight ((10 : Int64).toBitVec.smod 64).toNat).toNat = _
  rw [show ((10 : Int64).toBitVec.smod 64).toNat = 10 from by decide, BitVec.sshiftRight_eq_of_msb_false hm, BitVec.toNat_ushiftRight, n64_tn, Nat.shiftRight_eq_div_pow]
  omega)
theorem n64_or (a b : Nat) : n64 a ||| n64 b = n64 (a ||| b) := n64_ext (by
  rw [Int64.toBitVec_or, BitVec.toNat_or, n64_tn, n64_tn]
  exact (Nat.or_mod_two_pow (n := 64)).symm)
theorem n64_and (a b : Nat) : n64 a &&& n64 b = n64 (a &&& b) := n64_ext (by
  rw [Int64.toBitVec_and, BitVec.toNat_and, n64_tn, n64_tn]
  exact (Nat.and_mod_two_pow (n := 64)).symm)
theorem n64_32 (a : Nat) : (n64 a).toInt32 = n32 a := by rw [n64_v, lo_32, iv_n]
theorem or_1024 {a m : Nat} (h : m < 1024) : 1024 * a ||| m = 1024 * a + m := by
  have e := Nat.shiftLeft_add_eq_or_of_lt (i := 10) (b := m) h a
  rw [Nat.shiftLeft_eq] at e
  rw [show 1024 * a = a * 2 ^ 10 by omega]
  exact e.symm
theorem and_1023 (a : Nat) : a &&& 1023 = a % 1024 := Nat.and_two_pow_sub_one_eq_mod a 10
theorem y_1023 (y : Int32) : ∃ m, m < 1024 ∧ y &&& 1023 = n32 m := by
  refine ⟨y.toBitVec.toNat % 1024, Nat.mod_lt _ (by decide), ?_⟩
  apply Int32.toBitVec_inj.mp
  apply BitVec.eq_of_toNat_eq
  rw [Int32.toBitVec_and, BitVec.toNat_and]
  show y.toBitVec.toNat &&& 1023 = _
  rw [and_1023]
  unfold n32
  rw [Int32.toBitVec_ofNat', BitVec.toNat_ofNat]
  omega
theorem n32_1023 {t : Nat} (h : t < 1024) : n32 t &&& 1023 = n32 t := by
  apply Int32.toBitVec_inj.mp
  apply BitVec.eq_of_toNat_eq
  rw [Int32.toBitVec_and, BitVec.toNat_and]
  unfold n32
  rw [Int32.toBitVec_ofNat', BitVec.toNat_ofNat]
  show t % 2 ^ 32 &&& 1023 = _
  rw [and_1023]
  omega
theorem sh_10 : ((n32 10).toInt64 &&& 63 : Int64) = 10 := by decide
theorem lE_n {a m : Nat} {y : Int32} (ha : a < 2147483648) (hy : y &&& 1023 = n32 m) (hm : m < 1024) : ax_lE (n32 a) y = n64 (1024 * a + m) := by
  unfold ax_lE
  rw [hy, n64_of ha, n64_of (by omega), n64_shl, n64_or, or_1024 hm]
theorem nE_cmp {x s : Nat} (hx : x < 2147483648) (hs : s < 2147483648) (y : Int32) : (lg_cmp (ax_lE (n32 x) y >>> ((n32 10).toInt64 &&& 63)) (n32 s).toInt64 = n32 0) = (n32 x = n32 s) := by
  obtain ⟨m, hm, e⟩ := y_1023 y
  rw [sh_10, lE_n hx e hm, n64_shr (by omega), n64_of hs, show (1024 * x + m) / 1024 = x by omega, n64_v, n64_v, cmp_eq (by unfold Bg; omega) (by unfold Bg; omega), n32_eq hx hs]
  apply propext
  omega
theorem nE_put {x t : Nat} (ht : t ≤ 999) : (n32 x).toInt64 <<< ((n32 10).toInt64 &&& 63) ||| (n32 t).toInt64 = ax_lE (n32 x) (n32 t) := by
  unfold ax_lE
  rw [sh_10, n32_1023 (by omega)]
theorem nE_hi {x t : Nat} (hx : x < 2147483648) (ht : t ≤ 999) : ax_lhi (ax_lE (n32 x) (n32 t)) = n32 x := by
  unfold ax_lhi
  rw [lE_n hx (n32_1023 (by omega)) (by omega), n64_shr (by omega), show (1024 * x + t) / 1024 = x by omega, n64_32]
theorem nE_lo {x t : Nat} (hx : x < 2147483648) (ht : t ≤ 999) : ax_llo (ax_lE (n32 x) (n32 t)) = n32 t := by
  unfold ax_llo
  rw [lE_n hx (n32_1023 (by omega)) (by omega), show (1023 : Int64) = n64 1023 from rfl, n64_and, and_1023, show (1024 * x + t) % 1024 = t by omega, n64_32]
theorem nE_read {x t : Nat} (hx : x < 2147483648) (ht : t ≤ 999) : (ax_lE (n32 x) (n32 t) &&& (n32 1023).toInt64 : Int64).toInt32 = n32 t := by
  rw [lE_n hx (n32_1023 (by omega)) (by omega), n64_of (by omega), n64_and, and_1023, show (1024 * x + t) % 1024 = t by omega, n64_32]
