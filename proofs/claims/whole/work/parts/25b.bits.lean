/-! bits -/
def tb (m p : Nat) : Nat := if m.testBit p = true then 1 else 0
def popN (m : Nat) : Nat := sumN (fun p => tb m p) 10
def bcI (x0 : Int32) : Int32 :=
  let a := x0 - (((x0.toUInt32 >>> ((n32 1).toUInt32 &&& Int32.toUInt32 31)).toInt32) &&& (n32 1431655765))
  let b := (a &&& (n32 858993459)) + (((a.toUInt32 >>> ((n32 2).toUInt32 &&& Int32.toUInt32 31)).toInt32) &&& (n32 858993459))
  let c := (b + ((b.toUInt32 >>> ((n32 4).toUInt32 &&& Int32.toUInt32 31)).toInt32)) &&& (n32 252645135)
  let e := c + ((c.toUInt32 >>> ((n32 8).toUInt32 &&& Int32.toUInt32 31)).toInt32)
  (e + ((e.toUInt32 >>> ((n32 16).toUInt32 &&& Int32.toUInt32 31)).toInt32)) &&& (n32 63)
theorem bc_chk : allN 1024 (fun m => decide (bcI (n32 m) = n32 (popN m))) = true := by decide +kernel
theorem bc_ok {m : Nat} (h : m < 1024) : bcI (n32 m) = n32 (popN m) := of_decide_eq_true (allN_at bc_chk m h)
theorem sr_chk : allN 1024 (fun m => allN 10 (fun p => decide ((n32 m >>> (n32 p &&& 31)) &&& n32 1 = n32 (tb m p)))) = true := by decide +kernel
theorem sr_ok {m p : Nat} (h : m < 1024) (hp : p < 10) : (n32 m >>> (n32 p &&& 31)) &&& n32 1 = n32 (tb m p) := of_decide_eq_true (allN_at (allN_at sr_chk m h) p hp)
theorem sl_chk : allN 10 (fun p => decide (n32 1 <<< (n32 p &&& 31) = n32 (2 ^ p))) = true := by decide +kernel
theorem sl_ok {p : Nat} (hp : p < 10) : n32 1 <<< (n32 p &&& 31) = n32 (2 ^ p) := of_decide_eq_true (allN_at sl_chk p hp)
theorem or_ok (a b : Nat) : n32 a ||| n32 b = n32 (a ||| b) := by
  unfold n32
  apply Int32.toBitVec_inj.mp
  rw [Int32.toBitVec_or, Int32.toBitVec_ofNat', Int32.toBitVec_ofNat', Int32.toBitVec_ofNat']
  apply BitVec.eq_of_toNat_eq
  rw [BitVec.toNat_or, BitVec.toNat_ofNat, BitVec.toNat_ofNat, BitVec.toNat_ofNat]
  exact (Nat.or_mod_two_pow).symm
theorem or_lt {a p : Nat} (h : a < 1024) (hp : p < 10) : a ||| 2 ^ p < 1024 := Nat.or_lt_two_pow (n := 10) h (Nat.pow_lt_pow_right (by omega) hp)
theorem tb_or (a p q : Nat) : tb (a ||| 2 ^ p) q = if p = q then 1 else tb a q := by
  unfold tb
  rw [Nat.testBit_or, Nat.testBit_two_pow]
  by_cases h : p = q
  · simp [h]
  · simp [h]
theorem tb_zero (q : Nat) : tb 0 q = 0 := by simp [tb]
def maskF (b : Nat → Nat) : Nat → Nat
  | 0 => 0
  | n + 1 => maskF b n ||| 2 ^ b n
theorem mask_lt {b : Nat → Nat} : ∀ {n : Nat}, (∀ c, c < n → b c < 10) → maskF b n < 1024
  | 0, _ => show 0 < 1024 by decide
  | n + 1, h => or_lt (mask_lt (fun c hc => h c (by omega))) (h n (by omega))
theorem mask_tb {b : Nat → Nat} (q : Nat) : ∀ n : Nat, tb (maskF b n) q = if cntF n b q = 0 then 0 else 1
  | 0 => by
    rw [show maskF b 0 = 0 from rfl, tb_zero]
    rfl
  | n + 1 => by
    rw [show maskF b (n + 1) = maskF b n ||| 2 ^ b n from rfl, tb_or, mask_tb q n]
    rw [show cntF (n + 1) b q = cntF n b q + (if b n = q then 1 else 0) from rfl]
    by_cases h : b n = q
    · simp [h]
    · simp [h]
theorem mask_pop (b : Nat → Nat) (n : Nat) : popN (maskF b n) = ptsF n b := sumN_congr (fun q _ => mask_tb q n)
/-- the mask of those for which S holds -/
def maskS (S : Nat → Bool) : Nat → Nat
  | 0 => 0
  | n + 1 => if S n = true then maskS S n ||| 2 ^ n else maskS S n
theorem maskS_lt {S : Nat → Bool} : ∀ {n : Nat}, n ≤ 8 → maskS S n < 2 ^ 8
  | 0, _ => show 0 < 2 ^ 8 by decide
  | n + 1, h => by
    unfold maskS
    have := maskS_lt (S := S) (n := n) (by omega)
    split
    · exact Nat.or_lt_two_pow this (Nat.pow_lt_pow_right (by omega) (by omega))
    · exact this
theorem maskS_congr {S S' : Nat → Bool} : ∀ {n : Nat}, (∀ i, i < n → S i = S' i) → maskS S n = maskS S' n
  | 0, _ => rfl
  | n + 1, h => by
    unfold maskS
    rw [maskS_congr (fun i hi => h i (by omega)), h n (by omega)]
theorem pop8 {m : Nat} (h : m < 2 ^ 8) : popN m = sumN (fun p => tb m p) 8 := by
  show sumN (fun p => tb m p) 8 + tb m 8 + tb m 9 = _
  have h8 : tb m 8 = 0 := by
    unfold tb
    rw [Nat.testBit_lt_two_pow h]
    rfl
  have h9 : tb m 9 = 0 := by
    unfold tb
    rw [Nat.testBit_lt_two_pow (Nat.lt_trans h (by decide))]
    rfl
  omega
