/-! the abstract machine: a heap of total functions by (site, number, place); one instruction; runs; calls by depth -/
def ax_wI (f : Nat → Nat → Nat → Int32) (s a j : Nat) (v : Int32) : Nat → Nat → Nat → Int32 := fun s' a' j' => if s' = s ∧ a' = a ∧ j' = j then v else f s' a' j'
def ax_wR (f : Nat → Nat → Nat → AR) (s a j : Nat) (v : AR) : Nat → Nat → Nat → AR := fun s' a' j' => if s' = s ∧ a' = a ∧ j' = j then v else f s' a' j'
def ax_zI (f : Nat → Nat → Nat → Int32) (s a n : Nat) : Nat → Nat → Nat → Int32 := fun s' a' j' => if s' = s ∧ a' = a ∧ j' < n then 0 else f s' a' j'
def ax_zR (f : Nat → Nat → Nat → AR) (s a n : Nat) : Nat → Nat → Nat → AR := fun s' a' j' => if s' = s ∧ a' = a ∧ j' < n then none else f s' a' j'
def ax_wN (f : Nat → Nat) (s n : Nat) : Nat → Nat := fun s' => if s' = s then n else f s'
def ax_wL (f : Nat → Nat → Nat) (s a n : Nat) : Nat → Nat → Nat := fun s' a' => if s' = s ∧ a' = a then n else f s' a'
/-- n places of (s, a) from sp on, laid into (t, b) from dp on -/
def ax_cI (f : Nat → Nat → Nat → Int32) (s a sp t b dp n : Nat) : Nat → Nat → Nat → Int32 := fun s' a' j => if s' = t ∧ a' = b ∧ dp ≤ j ∧ j < dp + n then f s a (sp + (j - dp)) else f s' a' j
/-- a new cell of n places -/
def ax_new (h : AH) (s n : Nat) : AH :=
  (ax_zI h.1 s (h.2.2.1 s) n, ax_zR h.2.1 s (h.2.2.1 s) n, ax_wN h.2.2.1 s (h.2.2.1 s + 1), ax_wL h.2.2.2.1 s (h.2.2.1 s) n, h.2.2.2.2.1 + 1, h.2.2.2.2.2 + n)
/-- a new array of n longs: two ints a place, the second ones behind the first -/
def ax_newl (h : AH) (s n : Nat) : AH := (ax_zI h.1 s (h.2.2.1 s) (n + n), (ax_new h s n).2)
/-- a long as two ints, and back -/
def ax_lE (x y : Int32) : Int64 := x.toInt64 <<< 10 ||| (y &&& 1023).toInt64
def ax_lhi (v : Int64) : Int32 := (v >>> 10).toInt32
def ax_llo (v : Int64) : Int32 := (v &&& 1023).toInt32
/-- a new array of n new arrays of k ints -/
def ax_mnew (h : AH) (s t n k : Nat) : AH :=
  (fun s' a' j' => if s' = t ∧ h.2.2.1 t ≤ a' ∧ a' < h.2.2.1 t + n ∧ j' < k then 0 else h.1 s' a' j',
   fun s' a' j' => if s' = s ∧ a' = h.2.2.1 s ∧ j' < n then some (t, h.2.2.1 t + j') else if s' = t ∧ h.2.2.1 t ≤ a' ∧ a' < h.2.2.1 t + n ∧ j' < k then none else h.2.1 s' a' j',
   ax_wN (ax_wN h.2.2.1 s (h.2.2.1 s + 1)) t (h.2.2.1 t + n), h.2.2.2.1, h.2.2.2.2.1 + 1 + n, h.2.2.2.2.2 + n + n * k)
/-- a new array as another one -/
def ax_cl (h : AH) (s a t n : Nat) : AH :=
  (fun s' a' j' => if s' = t ∧ a' = h.2.2.1 t ∧ j' < n then h.1 s a j' else h.1 s' a' j', (ax_new h t n).2)
def ax_len (h : AH) (s a : Nat) : Nat := match ax_sl s with
  | some n => n
  | none => h.2.2.2.1 s a
def ax_in (i : Int32) (n : Nat) : Prop := ¬ i < 0 ∧ i.toNatClampNeg < n
def ax_lin (k d o : Nat) : Nat := cond (Nat.beq k 1) (cond (Nat.beq d 0) o (o + d)) (cond (Nat.beq d 0) (k * o) (k * o + d))
def ax_lin2 (k d o j : Nat) : Nat := cond (Nat.beq k 0) (cond (Nat.beq d 0) j (j + d)) (k * o + j)
def ax_rid (r : AR) : Nat := match r with
  | some q => q.2
  | none => 0
def ax_lget : AL → Nat → Option AV
  | [], _ => none
  | o :: _, 0 => o
  | _ :: L, i + 1 => ax_lget L i
def ax_kl : Option AV → Option AV
  | some (.inr (.inl _)) => none
  | o => o
def ax_ls1 : AL → Nat → AV → AL
  | [], _, _ => []
  | _ :: L, 0, v => some v :: L
  | o :: L, 1, v => ax_kl o :: ax_ls1 L 0 v
  | o :: L, i + 2, v => o :: ax_ls1 L (i + 1) v
def ax_ls2 : AL → Nat → AV → AL
  | [], _, _ => []
  | [_], 0, _ => []
  | _ :: _ :: L, 0, v => some v :: none :: L
  | o :: L, 1, v => ax_kl o :: ax_ls2 L 0 v
  | o :: L, i + 2, v => o :: ax_ls2 L (i + 1) v
def ax_le : List AV → Nat → AL
  | [], n => List.replicate n none
  | .inr (.inl x) :: as, n => some (.inr (.inl x)) :: none :: ax_le as (n - 2)
  | v :: as, n => some v :: ax_le as (n - 1)
/-- 0 int, 1 long, 2 reference -/
def ax_tg : AV → Nat
  | .inl _ => 0
  | .inr (.inl _) => 1
  | .inr (.inr _) => 2
def ax_cat : AV → Nat
  | .inr (.inl _) => 2
  | _ => 1
def ax_w (st : List AV) : Nat := match st with
  | [] => 0
  | v :: l => ax_cat v + ax_w l
def ax_pop : Nat → List AV → List AV → Option (List AV × List AV)
  | 0, acc, st => some (acc, st)
  | _ + 1, _, [] => none
  | n + 1, acc, v :: st => ax_pop n (v :: acc) st
def ax_psh (r : Option AV) (st : List AV) : List AV := match r with
  | none => st
  | some v => v :: st
def ax_ib (b : Nat) (x y : Int32) : Int32 := match b with
  | 0 => x + y
  | 1 => x - y
  | 2 => x * y
  | 3 => x &&& y
  | 4 => x ||| y
  | 5 => x <<< (y &&& 31)
  | 6 => x >>> (y &&& 31)
  | _ => (x.toUInt32 >>> (y.toUInt32 &&& Int32.toUInt32 31)).toInt32
/-- Math.min, Math.max -/
def ax_mm (b : Nat) (x y : Int32) : Int32 := match b with
  | 0 => if y < x then y else x
  | _ => if x < y then y else x
def ax_lb (b : Nat) (x y : Int64) : Int64 := match b with
  | 0 => x + y
  | 1 => x - y
  | 2 => x * y
  | 3 => x &&& y
  | _ => x ||| y
def ax_lsh (b : Nat) (x : Int64) (y : Int32) : Int64 := match b with
  | 0 => x <<< (y.toInt64 &&& 63)
  | _ => x >>> (y.toInt64 &&& 63)
def ax_iu (b : Nat) (x : Int32) : Int32 := match b with
  | 0 => -x
  | 1 => x.toInt8.toInt32
  | _ => (x.toUInt32 % 65536).toInt32
/-- an object of that class (b: read only ones too) -/
def ax_oc (s c : Nat) : Bool := (Nat.beq (ax_sk s).1 0 || Nat.beq (ax_sk s).1 3) && Nat.beq (ax_sk s).2 c
def ax_o0 (s c : Nat) : Bool := Nat.beq (ax_sk s).1 0 && Nat.beq (ax_sk s).2 c
def ax_ar (s : Nat) : Bool := Nat.beq (ax_sk s).1 1 || Nat.beq (ax_sk s).1 2
def ax_at (s t : Nat) : Bool := ax_ar s && Nat.beq (ax_sk s).2 t
def ax_a1 (s t : Nat) : Bool := Nat.beq (ax_sk s).1 1 && Nat.beq (ax_sk s).2 t
def ax_aq (s : Nat) : Bool := Nat.beq (ax_sk s).1 1 && (Nat.ble 3 (ax_sk s).2 && Nat.ble (ax_sk s).2 7)
def ax_rok (t : Nat) (r : AR) : Prop := r = none ∨ ∃ x, r = some (ax_tc t, x)
abbrev AN : Type := (AF × AH) ⊕ ((Prop × AF × AH) ⊕ ((Option AV × AH) ⊕ ((Prop × Option AV × AH) ⊕ ((Nat × List AV × (Option AV → AF) × AH) ⊕ (Prop × AF × AF × AH)))))
abbrev an_k (f : AF) (h : AH) : Option AN := some (.inl (f, h))
abbrev an_g (P : Prop) (f : AF) (h : AH) : Option AN := some (.inr (.inl (P, f, h)))
abbrev an_r (r : Option AV) (h : AH) : Option AN := some (.inr (.inr (.inl (r, h))))
abbrev an_rg (P : Prop) (r : Option AV) (h : AH) : Option AN := some (.inr (.inr (.inr (.inl (P, r, h)))))
abbrev an_c (y : Nat) (as : List AV) (F : Option AV → AF) (h : AH) : Option AN := some (.inr (.inr (.inr (.inr (.inl (y, as, F, h))))))
abbrev an_b (P : Prop) (f g : AF) (h : AH) : Option AN := some (.inr (.inr (.inr (.inr (.inr (P, f, g, h))))))
def st_load (m nx a b : Nat) (L : AL) (st : List AV) (h : AH) : Option AN := match ax_lget L a with
  | some v => cond (Nat.beq (ax_tg v) (b / 2)) (an_k (m, nx, L, v :: st) h) none
  | none => none
def st_store (m nx a b : Nat) (L : AL) (st : List AV) (h : AH) : Option AN := match st with
  | v :: st => cond (Nat.beq (ax_tg v) (b / 2)) (an_k (m, nx, cond (Nat.beq (b / 2) 1) (ax_ls2 L a v) (ax_ls1 L a v), st) h) none
  | [] => none
def st_iinc (m nx a : Nat) (n : Int32) (L : AL) (st : List AV) (h : AH) : Option AN := match ax_lget L a with
  | some (.inl x) => an_k (m, nx, ax_ls1 L a (.inl (x + n)), st) h
  | _ => none
def st_ib (m nx b : Nat) (L : AL) (st : List AV) (h : AH) : Option AN := match st with
  | .inl y :: .inl x :: st => an_k (m, nx, L, .inl (ax_ib b x y) :: st) h
  | _ => none
def st_id (m nx b : Nat) (L : AL) (st : List AV) (h : AH) : Option AN := match st with
  | .inl y :: .inl x :: st => an_g (¬ y = 0) (m, nx, L, .inl (cond (Nat.beq b 0) (x / y) (x - x / y * y)) :: st) h
  | _ => none
def st_lb (m nx b : Nat) (L : AL) (st : List AV) (h : AH) : Option AN := match st with
  | .inr (.inl y) :: .inr (.inl x) :: st => an_k (m, nx, L, .inr (.inl (ax_lb b x y)) :: st) h
  | _ => none
def st_ld (m nx b : Nat) (L : AL) (st : List AV) (h : AH) : Option AN := match st with
  | .inr (.inl y) :: .inr (.inl x) :: st => an_g (¬ y = 0) (m, nx, L, .inr (.inl (cond (Nat.beq b 0) (x / y) (x - x / y * y))) :: st) h
  | _ => none
def st_iu (m nx b : Nat) (L : AL) (st : List AV) (h : AH) : Option AN := match st with
  | .inl x :: st => an_k (m, nx, L, .inl (ax_iu b x) :: st) h
  | _ => none
def st_i2l (m nx : Nat) (L : AL) (st : List AV) (h : AH) : Option AN := match st with
  | .inl x :: st => an_k (m, nx, L, .inr (.inl x.toInt64) :: st) h
  | _ => none
def st_l2i (m nx : Nat) (L : AL) (st : List AV) (h : AH) : Option AN := match st with
  | .inr (.inl x) :: st => an_k (m, nx, L, .inl x.toInt32 :: st) h
  | _ => none
def st_lcmp (m nx : Nat) (L : AL) (st : List AV) (h : AH) : Option AN := match st with
  | .inr (.inl y) :: .inr (.inl x) :: st => an_k (m, nx, L, .inl (lg_cmp x y) :: st) h
  | _ => none
def st_if (m nx a b : Nat) (L : AL) (st : List AV) (h : AH) : Option AN := match st with
  | .inl x :: st => match b with
    | 0 => an_b (x = 0) (m, a, L, st) (m, nx, L, st) h
    | 1 => an_b (x = 0) (m, nx, L, st) (m, a, L, st) h
    | 2 => an_b (x < 0) (m, a, L, st) (m, nx, L, st) h
    | 3 => an_b (x < 0) (m, nx, L, st) (m, a, L, st) h
    | 4 => an_b (0 < x) (m, a, L, st) (m, nx, L, st) h
    | _ => an_b (0 < x) (m, nx, L, st) (m, a, L, st) h
  | _ => none
def st_ic (m nx a b : Nat) (L : AL) (st : List AV) (h : AH) : Option AN := match st with
  | .inl y :: .inl x :: st => match b with
    | 0 => an_b (x = y) (m, a, L, st) (m, nx, L, st) h
    | 1 => an_b (x = y) (m, nx, L, st) (m, a, L, st) h
    | 2 => an_b (x < y) (m, a, L, st) (m, nx, L, st) h
    | 3 => an_b (x < y) (m, nx, L, st) (m, a, L, st) h
    | 4 => an_b (y < x) (m, a, L, st) (m, nx, L, st) h
    | _ => an_b (y < x) (m, nx, L, st) (m, a, L, st) h
  | _ => none
def st_nul (m nx a b : Nat) (L : AL) (st : List AV) (h : AH) : Option AN := match st with
  | .inr (.inr r) :: st => match b with
    | 0 => (match r with
      | none => an_k (m, a, L, st) h
      | some _ => an_k (m, nx, L, st) h)
    | 1 => (match r with
      | none => an_k (m, nx, L, st) h
      | some _ => an_k (m, a, L, st) h)
    | 2 => an_b (r = none) (m, a, L, st) (m, nx, L, st) h
    | _ => an_b (r = none) (m, nx, L, st) (m, a, L, st) h
  | _ => none
def st_tsw (m a : Nat) (L : AL) (st : List AV) (h : AH) : Option AN := match st with
  | .inl x :: st => an_k (m, ax_tsw a x, L, st) h
  | _ => none
def st_iret (b : Nat) (st : List AV) (h : AH) : Option AN := match st with
  | [.inl x] => match b with
    | 0 => an_r (some (.inl x)) h
    | 1 => an_rg (x = 0 ∨ x = 1) (some (.inl x)) h
    | 2 => an_rg (x.toInt8.toInt32 = x) (some (.inl x)) h
    | _ => an_rg (x.toUInt32.toUInt16.toUInt32.toInt32 = x) (some (.inl x)) h
  | _ => none
def st_lret (st : List AV) (h : AH) : Option AN := match st with
  | [.inr (.inl x)] => an_r (some (.inr (.inl x))) h
  | _ => none
def st_aret (st : List AV) (h : AH) : Option AN := match st with
  | [.inr (.inr r)] => an_r (some (.inr (.inr r))) h
  | _ => none
def st_vret (st : List AV) (h : AH) : Option AN := match st with
  | [] => an_r none h
  | _ => none
def st_geti (m nx c k : Nat) (L : AL) (st : List AV) (h : AH) : Option AN := match st with
  | .inr (.inr (some (s, o))) :: st => cond (ax_oc s c) (an_k (m, nx, L, .inl (h.1 s o k) :: st) h) none
  | _ => none
def st_getr (m nx c k : Nat) (L : AL) (st : List AV) (h : AH) : Option AN := match st with
  | .inr (.inr (some (s, o))) :: st => cond (ax_oc s c) (an_k (m, nx, L, .inr (.inr (h.2.1 s o k)) :: st) h) none
  | _ => none
def st_getf (m nx c k : Nat) (L : AL) (st : List AV) (h : AH) : Option AN := match st with
  | .inr (.inr (some (s, o))) :: st => cond (ax_oc s c) (an_g (h.2.1 s o k = some ((ax_fs c k).1, ax_lin (ax_fs c k).2.1 (ax_fs c k).2.2 o)) (m, nx, L, .inr (.inr (some ((ax_fs c k).1, ax_lin (ax_fs c k).2.1 (ax_fs c k).2.2 o))) :: st) h) none
  | _ => none
def st_getd (m nx c k : Nat) (L : AL) (st : List AV) (h : AH) : Option AN := match st with
  | .inr (.inr (some (s, o))) :: st => cond (ax_oc s c) (an_g (h.2.1 s o k = some (ax_fd c k, ax_rid (h.2.1 s o k))) (m, nx, L, .inr (.inr (some (ax_fd c k, ax_rid (h.2.1 s o k)))) :: st) h) none
  | _ => none
def st_puti (m nx c k : Nat) (L : AL) (st : List AV) (h : AH) : Option AN := match st with
  | .inl v :: .inr (.inr (some (s, o))) :: st => cond (ax_o0 s c) (an_k (m, nx, L, st) (ax_wI h.1 s o k v, h.2)) none
  | _ => none
def st_putz (m nx c k : Nat) (L : AL) (st : List AV) (h : AH) : Option AN := match st with
  | .inl v :: .inr (.inr (some (s, o))) :: st => cond (ax_o0 s c) (an_g (v = 0 ∨ v = 1) (m, nx, L, st) (ax_wI h.1 s o k v, h.2)) none
  | _ => none
def st_putr (m nx c k : Nat) (L : AL) (st : List AV) (h : AH) : Option AN := match st with
  | .inr (.inr r) :: .inr (.inr (some (s, o))) :: st => cond (ax_o0 s c) (an_k (m, nx, L, st) (h.1, ax_wR h.2.1 s o k r, h.2.2)) none
  | _ => none
def st_gets (m nx a b : Nat) (L : AL) (st : List AV) (h : AH) : Option AN := match b with
  | 0 => an_k (m, nx, L, .inr (.inr (some (x_stat, a))) :: st) h
  | 1 => an_k (m, nx, L, .inl 1 :: st) h
  | _ => an_k (m, nx, L, .inr (.inr (h.2.1 x_fmt 0 0)) :: st) h
def st_call (m nx y n : Nat) (L : AL) (st : List AV) (h : AH) : Option AN := match ax_pop n [] st with
  | some (as, st) => cond (Nat.ble (ax_w st) 8 && Nat.ble (ax_w as) (ax_mL y)) (an_c y as (fun r => (m, nx, L, ax_psh r st)) h) none
  | none => none
def st_callv (m nx y n : Nat) (L : AL) (st : List AV) (h : AH) : Option AN := match ax_pop n [] st with
  | some (.inr (.inr (some (s, o))) :: as, st) => cond ((Nat.ble (ax_w st) 8 && Nat.ble (ax_w as + 1) (ax_mL y)) && ax_oc s (ax_mc y)) (an_c y (.inr (.inr (some (s, o))) :: as) (fun r => (m, nx, L, ax_psh r st)) h) none
  | _ => none
def st_newo (m nx c n : Nat) (L : AL) (st : List AV) (h : AH) : Option AN := an_k (m, nx, L, .inr (.inr (some (c, h.2.2.1 c))) :: st) (ax_new h c n)
def st_newa (m nx s : Nat) (L : AL) (st : List AV) (h : AH) : Option AN := match st with
  | .inl n :: st => match ax_sl s with
    | some k => an_g (¬ n < 0 ∧ n.toNatClampNeg = k) (m, nx, L, .inr (.inr (some (s, h.2.2.1 s))) :: st) (ax_new h s k)
    | none => an_g (¬ n < 0 ∧ n.toNatClampNeg ≤ 65536) (m, nx, L, .inr (.inr (some (s, h.2.2.1 s))) :: st) (ax_new h s n.toNatClampNeg)
  | _ => none
def st_newq (m nx s : Nat) (L : AL) (st : List AV) (h : AH) : Option AN := match st with
  | .inl n :: st => match ax_sl s with
    | some k => an_g (¬ n < 0 ∧ n.toNatClampNeg = k) (m, nx, L, .inr (.inr (some (s, h.2.2.1 s))) :: st) (ax_new h s k)
    | none => none
  | _ => none
def st_newm (m nx s t : Nat) (L : AL) (st : List AV) (h : AH) : Option AN := match st with
  | .inl k :: .inl n :: st => match ax_sl s, ax_sl t with
    | some n', some k' => an_g ((¬ n < 0 ∧ n.toNatClampNeg = n') ∧ ¬ k < 0 ∧ k.toNatClampNeg = k') (m, nx, L, .inr (.inr (some (s, h.2.2.1 s))) :: st) (ax_mnew h s t n' k')
    | _, _ => none
  | _ => none
def st_alen (m nx : Nat) (L : AL) (st : List AV) (h : AH) : Option AN := match st with
  | .inr (.inr (some (s, o))) :: st => cond (ax_ar s) (an_k (m, nx, L, .inl (ax_len h s o).toInt32 :: st) h) none
  | _ => none
def st_ild (m nx : Nat) (L : AL) (st : List AV) (h : AH) : Option AN := match st with
  | .inl i :: .inr (.inr (some (s, o))) :: st => cond (ax_at s 0) (an_g (ax_in i (ax_len h s o)) (m, nx, L, .inl (h.1 s o i.toNatClampNeg) :: st) h) none
  | _ => none
def st_ist (m nx : Nat) (L : AL) (st : List AV) (h : AH) : Option AN := match st with
  | .inl v :: .inl i :: .inr (.inr (some (s, o))) :: st => cond (ax_a1 s 0) (an_g (ax_in i (ax_len h s o)) (m, nx, L, st) (ax_wI h.1 s o i.toNatClampNeg v, h.2)) none
  | _ => none
def st_bld (m nx : Nat) (L : AL) (st : List AV) (h : AH) : Option AN := match st with
  | .inl i :: .inr (.inr (some (s, o))) :: st => cond (ax_at s 1 || ax_at s 2) (an_g (ax_in i (ax_len h s o)) (m, nx, L, .inl (h.1 s o i.toNatClampNeg) :: st) h) none
  | _ => none
def st_bst (m nx : Nat) (L : AL) (st : List AV) (h : AH) : Option AN := match st with
  | .inl v :: .inl i :: .inr (.inr (some (s, o))) :: st => cond (ax_a1 s 1) (an_g (ax_in i (ax_len h s o)) (m, nx, L, st) (ax_wI h.1 s o i.toNatClampNeg v.toInt8.toInt32, h.2))
      (cond (ax_a1 s 2) (an_g ((v = 0 ∨ v = 1) ∧ ax_in i (ax_len h s o)) (m, nx, L, st) (ax_wI h.1 s o i.toNatClampNeg v, h.2)) none)
  | _ => none
def st_ald (m nx : Nat) (L : AL) (st : List AV) (h : AH) : Option AN := match st with
  | .inl i :: .inr (.inr (some (s, o))) :: st => cond (ax_aq s) (an_g (ax_in i (ax_len h s o)) (m, nx, L, .inr (.inr (h.2.1 s o i.toNatClampNeg)) :: st) h) none
  | _ => none
def st_alf (m nx : Nat) (L : AL) (st : List AV) (h : AH) : Option AN := match st with
  | .inl i :: .inr (.inr (some (s, o))) :: st => cond (ax_aq s) (an_g (ax_in i (ax_len h s o) ∧ h.2.1 s o i.toNatClampNeg = some ((ax_es s).1, ax_lin2 (ax_es s).2.1 (ax_es s).2.2 o i.toNatClampNeg)) (m, nx, L, .inr (.inr (some ((ax_es s).1, ax_lin2 (ax_es s).2.1 (ax_es s).2.2 o i.toNatClampNeg))) :: st) h) none
  | _ => none
def st_ast (m nx : Nat) (L : AL) (st : List AV) (h : AH) : Option AN := match st with
  | .inr (.inr r) :: .inl i :: .inr (.inr (some (s, o))) :: st => cond (ax_aq s && Nat.ble (ax_sk s).2 6) (an_g (ax_in i (ax_len h s o) ∧ ax_rok (ax_sk s).2 r) (m, nx, L, st) (h.1, ax_wR h.2.1 s o i.toNatClampNeg r, h.2.2)) none
  | _ => none
def st_dup (m nx : Nat) (L : AL) (st : List AV) (h : AH) : Option AN := match st with
  | v :: st => cond (Nat.beq (ax_cat v) 1) (an_k (m, nx, L, v :: v :: st) h) none
  | _ => none
def st_dup2 (m nx : Nat) (L : AL) (st : List AV) (h : AH) : Option AN := match st with
  | v :: u :: st => cond (Nat.beq (ax_cat v) 1 && Nat.beq (ax_cat u) 1) (an_k (m, nx, L, v :: u :: v :: u :: st) h) none
  | _ => none
def st_pop (m nx : Nat) (L : AL) (st : List AV) (h : AH) : Option AN := match st with
  | v :: st => cond (Nat.beq (ax_cat v) 1) (an_k (m, nx, L, st) h) none
  | _ => none
def st_oin (m nx : Nat) (L : AL) (st : List AV) (h : AH) : Option AN := match st with
  | .inr (.inr (some (s, o))) :: st => cond (Nat.ble (ax_w st) 8 && Nat.beq (ax_sk s).1 0) (an_k (m, nx, L, st) h) none
  | _ => none
def st_acp (m nx : Nat) (L : AL) (st : List AV) (h : AH) : Option AN := match st with
  | .inl n :: .inl dp :: .inr (.inr (some (t, b))) :: .inl sp :: .inr (.inr (some (s, a))) :: st =>
    cond (Nat.ble (ax_w st) 8 && ax_ar s && Nat.beq (ax_sk t).1 1 && Nat.beq (ax_sk s).2 (ax_sk t).2 && Nat.ble (ax_sk s).2 2)
      (an_g ((¬ sp < 0 ∧ ¬ dp < 0 ∧ ¬ n < 0 ∧ sp.toNatClampNeg + n.toNatClampNeg ≤ ax_len h s a ∧ dp.toNatClampNeg + n.toNatClampNeg ≤ ax_len h t b) ∧ ((ax_sk s).2 = 0 ∨ ∀ i, i < n.toNatClampNeg → h.1 s a (sp.toNatClampNeg + i) = 0 ∨ h.1 s a (sp.toNatClampNeg + i) = 1))
        (m, nx, L, st) (ax_cI h.1 s a sp.toNatClampNeg t b dp.toNatClampNeg n.toNatClampNeg, h.2)) none
  | _ => none
def st_clo (m nx t : Nat) (L : AL) (st : List AV) (h : AH) : Option AN := match st with
  | .inr (.inr (some (s, a))) :: st => cond (Nat.ble (ax_w st) 8 && ax_a1 s 0) (an_k (m, nx, L, .inr (.inr (some (t, h.2.2.1 t))) :: st) (ax_cl h s a t (ax_len h s a))) none
  | _ => none
def st_cas (m nx : Nat) (L : AL) (st : List AV) (h : AH) : Option AN := match st with
  | .inr (.inr (some (s, a))) :: st => cond (ax_a1 s 0) (an_k (m, nx, L, .inr (.inr (some (s, a))) :: st) h) none
  | _ => none
def st_mm (m nx b : Nat) (L : AL) (st : List AV) (h : AH) : Option AN := match st with
  | .inl y :: .inl x :: st => cond (Nat.ble (ax_w st) 8) (an_k (m, nx, L, .inl (ax_mm b x y) :: st) h) none
  | _ => none
def st_lsh (m nx b : Nat) (L : AL) (st : List AV) (h : AH) : Option AN := match st with
  | .inl y :: .inr (.inl x) :: st => an_k (m, nx, L, .inr (.inl (ax_lsh b x y)) :: st) h
  | _ => none
def st_lld (m nx : Nat) (L : AL) (st : List AV) (h : AH) : Option AN := match st with
  | .inl i :: .inr (.inr (some (s, o))) :: st => cond (ax_a1 s 8) (an_g (ax_in i (ax_len h s o)) (m, nx, L, .inr (.inl (ax_lE (h.1 s o i.toNatClampNeg) (h.1 s o (ax_len h s o + i.toNatClampNeg)))) :: st) h) none
  | _ => none
def st_lst (m nx : Nat) (L : AL) (st : List AV) (h : AH) : Option AN := match st with
  | .inr (.inl v) :: .inl i :: .inr (.inr (some (s, o))) :: st => cond (ax_a1 s 8) (an_g (ax_in i (ax_len h s o) ∧ ax_lE (ax_lhi v) (ax_llo v) = v) (m, nx, L, st) (ax_wI (ax_wI h.1 s o i.toNatClampNeg (ax_lhi v)) s o (ax_len h s o + i.toNatClampNeg) (ax_llo v), h.2)) none
  | _ => none
def st_newl (m nx s : Nat) (L : AL) (st : List AV) (h : AH) : Option AN := match st with
  | .inl n :: st => match ax_sl s with
    | some k => an_g (¬ n < 0 ∧ n.toNatClampNeg = k) (m, nx, L, .inr (.inr (some (s, h.2.2.1 s))) :: st) (ax_newl h s k)
    | none => none
  | _ => none
def st_ald2 (m nx : Nat) (L : AL) (st : List AV) (h : AH) : Option AN := match st with
  | .inl i :: .inr (.inr (some (s, o))) :: st => cond (ax_aq s) (an_g (ax_in i (ax_len h s o) ∧ h.2.1 s o i.toNatClampNeg = some (ax_tc (ax_sk s).2, ax_rid (h.2.1 s o i.toNatClampNeg))) (m, nx, L, .inr (.inr (some (ax_tc (ax_sk s).2, ax_rid (h.2.1 s o i.toNatClampNeg)))) :: st) h) none
  | _ => none
/-- one instruction -/
def ax_st (e : AI) (m : Nat) (L : AL) (st : List AV) (h : AH) : Option AN := match e with
  | (op, nx, a, b, n) => match op with
    | 0 => an_k (m, nx, L, .inl n :: st) h
    | 1 => an_k (m, nx, L, .inr (.inl n.toInt64) :: st) h
    | 2 => st_load m nx a b L st h
    | 3 => st_store m nx a b L st h
    | 4 => st_iinc m nx a n L st h
    | 5 => st_ib m nx b L st h
    | 6 => st_id m nx b L st h
    | 7 => st_lb m nx b L st h
    | 8 => st_ld m nx b L st h
    | 9 => st_iu m nx b L st h
    | 10 => st_i2l m nx L st h
    | 11 => st_l2i m nx L st h
    | 12 => st_lcmp m nx L st h
    | 13 => st_if m nx a b L st h
    | 14 => st_ic m nx a b L st h
    | 15 => st_nul m nx a b L st h
    | 16 => an_k (m, a, L, st) h
    | 17 => st_tsw m a L st h
    | 18 => st_iret b st h
    | 19 => st_lret st h
    | 20 => st_aret st h
    | 21 => st_vret st h
    | 22 => st_geti m nx a b L st h
    | 23 => st_puti m nx a b L st h
    | 24 => st_gets m nx a b L st h
    | 25 => st_call m nx a b L st h
    | 26 => st_newo m nx a b L st h
    | 27 => st_newa m nx a L st h
    | 28 => st_newq m nx a L st h
    | 29 => st_newm m nx a b L st h
    | 30 => st_alen m nx L st h
    | 31 => st_ild m nx L st h
    | 32 => st_ist m nx L st h
    | 33 => st_bld m nx L st h
    | 34 => st_bst m nx L st h
    | 35 => st_ald m nx L st h
    | 36 => st_ast m nx L st h
    | 37 => st_dup m nx L st h
    | 38 => st_dup2 m nx L st h
    | 39 => st_pop m nx L st h
    | 40 => an_k (m, nx, L, .inr (.inr none) :: st) h
    | 41 => an_k (m, nx, L, .inr (.inr (some (x_str, a))) :: st) h
    | 42 => st_oin m nx L st h
    | 43 => st_acp m nx L st h
    | 44 => st_clo m nx a L st h
    | 45 => st_cas m nx L st h
    | 46 => st_getr m nx a b L st h
    | 47 => st_getf m nx a b L st h
    | 48 => st_getd m nx a b L st h
    | 49 => st_putz m nx a b L st h
    | 50 => st_putr m nx a b L st h
    | 51 => st_alf m nx L st h
    | 52 => st_callv m nx a b L st h
    | 53 => st_mm m nx b L st h
    | 54 => st_lsh m nx b L st h
    | 55 => st_lld m nx L st h
    | 56 => st_lst m nx L st h
    | 57 => st_newl m nx a L st h
    | 58 => st_ald2 m nx L st h
    | _ => none
abbrev AC : Type := Nat → List AV → AH → (Option AV → AH → Prop) → Prop
def ax_op (C : AC) (x : Option AN) (K : AF → AH → Prop) (Q : Option AV → AH → Prop) : Prop := match x with
  | none => False
  | some (.inl (f, h)) => K f h
  | some (.inr (.inl (P, f, h))) => P ∧ K f h
  | some (.inr (.inr (.inl (r, h)))) => Q r h
  | some (.inr (.inr (.inr (.inl (P, r, h))))) => P ∧ Q r h
  | some (.inr (.inr (.inr (.inr (.inl (y, as, F, h)))))) => C y as h (fun r h' => K (F r) h')
  | some (.inr (.inr (.inr (.inr (.inr (P, f, g, h)))))) => (P → K f h) ∧ (¬ P → K g h)
def ax_step (f : AF) (h : AH) : Option AN := match f with
  | (m, pc, L, st) => ax_st (ax_ft m pc) m L st h
def ax_run (C : AC) : Nat → AF → AH → (Option AV → AH → Prop) → Prop
  | 0, _, _, _ => False
  | n + 1, f, h, Q => ax_op C (ax_step f h) (fun f' h' => ax_run C n f' h' Q) Q
def ax_entry (m : Nat) (as : List AV) : AF := (m, 0, ax_le as (ax_mL m), [])
def ax_call : Nat → AC
  | 0 => fun _ _ _ _ => False
  | d + 1 => fun m as h Q => ∃ n, ax_run (ax_call d) n (ax_entry m as) h Q
/-- n instructions from f on, then K -/
def ax_steps (C : AC) : Nat → AF → AH → (AF → AH → Prop) → (Option AV → AH → Prop) → Prop
  | 0, f, h, K, _ => K f h
  | n + 1, f, h, K, Q => ax_op C (ax_step f h) (fun f' h' => ax_steps C n f' h' K Q) Q
theorem Runs_ex : ∃ R : Nat → AF → AH → (Option AV → AH → Prop) → Prop, ∀ d f h Q, R d f h Q = (∃ n, ax_run (ax_call d) n f h Q) := ⟨_, fun _ _ _ _ => rfl⟩
/-- (by choice: so that it isn't unfolded) -/
noncomputable def Runs : Nat → AF → AH → (Option AV → AH → Prop) → Prop := Classical.choose Runs_ex
theorem Runs_def (d : Nat) (f : AF) (h : AH) (Q : Option AV → AH → Prop) : Runs d f h Q = ∃ n, ax_run (ax_call d) n f h Q := Classical.choose_spec Runs_ex d f h Q
