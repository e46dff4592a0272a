/-! the checks, by the kernel -/
def ax_ck (m : Nat) (q : Nat × AI) : Bool := (match decode (ax_bc m) q.1 with
  | .ok (i, len) => decide (i = ax_enc q.1 q.2) && Nat.beq (q.1 + len) q.2.2.1
  | _ => false) && ax_side m q.1 q.2
def ax_ckm (m : Nat) : Bool := (ax_code m).all (fun ch => ch.all (ax_ck m))
def ax_ckr (lo n : Nat) : Bool := (List.range n).all (fun i => ax_ckm (lo + i))
theorem ax_ckr_0 : ax_ckr 0 11 = true := by decide +kernel
theorem ax_ckr_11 : ax_ckr 11 17 = true := by decide +kernel
theorem ax_ckr_28 : ax_ckr 28 17 = true := by decide +kernel
theorem ax_ckr_45 : ax_ckr 45 13 = true := by decide +kernel
theorem ax_ckr_58 : ax_ckr 58 16 = true := by decide +kernel
