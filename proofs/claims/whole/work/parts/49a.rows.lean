/-! rows of things by places: all, in order; the next one -/
def eqL : List Nat → List Nat → Bool
  | [], [] => true
  | x :: l, y :: m => Nat.beq x y && eqL l m
  | _, _ => false
theorem eqL_eq : ∀ {l m : List Nat}, eqL l m = true → l = m
  | [], [], _ => rfl
  | x :: l, y :: m, h => by
    have h : (Nat.beq x y && eqL l m) = true := h
    rw [Bool.and_eq_true] at h
    rw [Nat.eq_of_beq_eq_true h.1, eqL_eq h.2]
  | [], _ :: _, h => absurd h (by simp [eqL])
  | _ :: _, [], h => absurd h (by simp [eqL])
def swF (f : FF) (a b : Nat) : FF := fun i => if i = b then f a else if i = a then f b else f i
def fkN (f : FF) : Nat → Option Nat
  | 0 => none
  | k + 1 => if f (k + 1) < f k then fkN f k else some k
def fmN (f : FF) (k : Nat) : Nat → Nat
  | 0 => 0
  | m + 1 => if f (m + 1) < f k then fmN f k m else m + 1
def rvF (f : FF) : Nat → Nat → Nat → FF
  | 0, _, _ => f
  | k + 1, a, b => if a < b then rvF (swF f a b) k (a + 1) (b - 1) else f
def nxF (f : FF) (n : Nat) : Option FF := match fkN f (n - 1) with
  | none => none
  | some k => some (rvF (swF f k (fmN f k (n - 1))) 6 (k + 1) (n - 1))
def rowL (f : FF) : Nat → List Nat
  | 0 => []
  | n + 1 => rowL f n ++ [f n]
theorem rowL_len (f : FF) : ∀ n, (rowL f n).length = n
  | 0 => rfl
  | n + 1 => by
    show (rowL f n ++ [f n]).length = n + 1
    rw [List.length_append, rowL_len f n]
    rfl
theorem rowL_get {f : FF} : ∀ {n i : Nat}, i < n → (rowL f n).getD i 0 = f i
  | 0, i, h => absurd h (Nat.not_lt_zero i)
  | n + 1, i, h => by
    show (rowL f n ++ [f n]).getD i 0 = f i
    rw [getD_app, rowL_len]
    by_cases z : i < n
    · rw [if_pos z]
      exact rowL_get z
    · rw [if_neg z, if_pos (by omega), show i = n by omega]
def gt (r : List Nat) : FF := fun i => r.getD i 0
def chain (n : Nat) : List (List Nat) → Bool
  | [] => false
  | [r] => (nxF (gt r) n).isNone
  | r :: r' :: l => (match nxF (gt r) n with
    | some f => eqL (rowL f n) r'
    | none => false) && chain n (r' :: l)
def sbF (S : Nat → Bool) : Nat → List Nat
  | 0 => []
  | t + 1 => if S t = true then sbF S t ++ [t] else sbF S t
def remS (S : Nat → Bool) (t : Nat) : Nat → Bool := fun u => S u && !(Nat.beq u t)
/-- all rows of k out of a set, in order -/
def prm : Nat → (Nat → Bool) → List (List Nat)
  | 0, _ => [[]]
  | k + 1, S => catN (fun t => if S t = true then (prm k (remS S t)).map (fun r => t :: r) else []) 6
def srI (f : FF) (a : Nat) : Nat → FF
  | 0 => f
  | j + 1 => if srI f a j (a + 1 + j) < srI f a j a then swF (srI f a j) a (a + 1 + j) else srI f a j
def srO (f : FF) (n : Nat) : Nat → FF
  | 0 => f
  | a + 1 => srI (srO f n a) a (n - (a + 1))
def allL (p : List Nat → Bool) : List (List Nat) → Bool
  | [] => true
  | r :: l => p r && allL p l
theorem allL_mem {p : List Nat → Bool} : ∀ {l : List (List Nat)} {r : List Nat}, allL p l = true → r ∈ l → p r = true
  | x :: l, r, h, hr => by
    have h : (p x && allL p l) = true := h
    rw [Bool.and_eq_true] at h
    rcases List.mem_cons.mp hr with z | z
    · rw [z]
      exact h.1
    · exact allL_mem h.2 z
def S6 (b0 b1 b2 b3 b4 b5 : Bool) : Nat → Bool := fun t => match t with
  | 0 => b0
  | 1 => b1
  | 2 => b2
  | 3 => b3
  | 4 => b4
  | 5 => b5
  | _ => false
def chkS (S : Nat → Bool) : Bool := chain (sbF S 6).length (prm (sbF S 6).length S) && (match prm (sbF S 6).length S with
  | [] => false
  | r :: _ => eqL r (sbF S 6)) && allL (fun r => eqL (rowL (srO (gt r) (sbF S 6).length (sbF S 6).length) (sbF S 6).length) (sbF S 6)) (prm (sbF S 6).length S)
set_option maxRecDepth 100000 in
theorem rows_ok : ∀ b0 b1 b2 b3 b4 b5 : Bool, chkS (S6 b0 b1 b2 b3 b4 b5) = true := by decide +kernel
theorem S6_of (S : Nat → Bool) (h : ∀ t, 6 ≤ t → S t = false) : S = S6 (S 0) (S 1) (S 2) (S 3) (S 4) (S 5) := by
  funext t
  by_cases z : t < 6
  · have cs : t = 0 ∨ t = 1 ∨ t = 2 ∨ t = 3 ∨ t = 4 ∨ t = 5 := by omega
    rcases cs with rfl | rfl | rfl | rfl | rfl | rfl <;> rfl
  · rw [h t (by omega)]
    obtain ⟨k, rfl⟩ : ∃ k, t = k + 6 := ⟨t - 6, by omega⟩
    rfl
theorem rows_at {S : Nat → Bool} (h : ∀ t, 6 ≤ t → S t = false) : chkS S = true := by
  rw [S6_of S h]
  exact rows_ok _ _ _ _ _ _
theorem prm_mem {k : Nat} : ∀ {S : Nat → Bool} {r : List Nat}, r ∈ prm k S → r.length = k ∧ ∀ i, i < k → r.getD i 0 < 6 ∧ S (r.getD i 0) = true := by
  induction k with
  | zero =>
    intro S r h
    have h : r ∈ [[]] := h
    rw [List.mem_singleton] at h
    subst h
    exact ⟨rfl, fun i hi => absurd hi (Nat.not_lt_zero i)⟩
  | succ k ih =>
    intro S r h
    have h : r ∈ catN _ 6 := h
    obtain ⟨t, ht, h⟩ := catN_mem.mp h
    by_cases z : S t = true
    · rw [if_pos z] at h
      obtain ⟨r', h', rfl⟩ := List.mem_map.mp h
      obtain ⟨q1, q2⟩ := ih h'
      refine ⟨by rw [List.length_cons, q1], fun i hi => ?_⟩
      cases i with
      | zero => exact ⟨ht, z⟩
      | succ i =>
        obtain ⟨a1, a2⟩ := q2 i (by omega)
        refine ⟨a1, ?_⟩
        unfold remS at a2
        rw [Bool.and_eq_true] at a2
        exact a2.1
    · rw [if_neg z] at h
      cases h
theorem prm_congr {k : Nat} : ∀ {S S' : Nat → Bool}, (∀ t, t < 6 → S t = S' t) → prm k S = prm k S' := by
  induction k with
  | zero => exact fun _ => rfl
  | succ k ih =>
    intro S S' h
    have e : ∀ n, n ≤ 6 → catN (fun t => if S t = true then (prm k (remS S t)).map (fun r => t :: r) else []) n = catN (fun t => if S' t = true then (prm k (remS S' t)).map (fun r => t :: r) else []) n := by
      intro n
      induction n with
      | zero => exact fun _ => rfl
      | succ n ihn =>
        intro hn
        have e1 : (if S n = true then (prm k (remS S n)).map (fun r => n :: r) else []) = (if S' n = true then (prm k (remS S' n)).map (fun r => n :: r) else []) := by
          rw [h n (by omega), ih (S := remS S n) (S' := remS S' n) (fun t ht => by
            unfold remS
            rw [h t ht])]
        show catN _ n ++ (if S n = true then (prm k (remS S n)).map (fun r => n :: r) else []) = catN _ n ++ (if S' n = true then (prm k (remS S' n)).map (fun r => n :: r) else [])
        rw [ihn (by omega), e1]
    exact e 6 (Nat.le_refl 6)
/-- a row without twice the same is among them -/
theorem prm_of : ∀ (r : List Nat) (S : Nat → Bool), r.Nodup → (∀ x, x ∈ r → x < 6 ∧ S x = true) → r ∈ prm r.length S
  | [], S, _, _ => List.mem_singleton.mpr rfl
  | t :: r, S, hn, hS => by
    have hn' := List.nodup_cons.mp hn
    have ht := hS t List.mem_cons_self
    show t :: r ∈ catN _ 6
    refine catN_mem.mpr ⟨t, ht.1, ?_⟩
    rw [if_pos ht.2]
    refine List.mem_map.mpr ⟨r, prm_of r (remS S t) hn'.2 (fun x hx => ?_), rfl⟩
    have hx' := hS x (List.mem_cons_of_mem _ hx)
    refine ⟨hx'.1, ?_⟩
    unfold remS
    rw [hx'.2]
    have hne : x ≠ t := fun e => hn'.1 (by rw [← e]; exact hx)
    cases hb : Nat.beq x t with
    | false => rfl
    | true => exact absurd (Nat.eq_of_beq_eq_true hb) hne
/-! what twins owe, the best -/
/-- twins of the seat with those ahead of it -/
def pbF (tw : Nat → Nat → Nat) (ne : Nat) (pl : FF) (r : FF) (k : Nat) : Nat := sumN (fun s => if pl k - pl s ≤ ne then tw (r s) (r k) else 0) k
def pcF (tw : Nat → Nat → Nat) (ne : Nat) (pl : FF) (r : FF) (n : Nat) : Nat := sumN (pbF tw ne pl r) n
abbrev BS : Type := Nat × Nat × List Nat
def bStep (co : List Nat → Nat) (x : BS) (r : List Nat) : BS := if x.1 = 0 ∨ co r < x.2.1 then (1, co r, r) else if co r = x.2.1 then (x.1 + 1, x.2.1, x.2.2) else x
theorem pbF_congr {tw : Nat → Nat → Nat} {ne : Nat} {pl r r' : FF} {k : Nat} (h : ∀ i, i ≤ k → r i = r' i) : pbF tw ne pl r k = pbF tw ne pl r' k := sumN_congr (fun s hs => by rw [h s (by omega), h k (Nat.le_refl k)])
theorem pcF_congr {tw : Nat → Nat → Nat} {ne : Nat} {pl r r' : FF} {n : Nat} (h : ∀ i, i < n → r i = r' i) : pcF tw ne pl r n = pcF tw ne pl r' n := sumN_congr (fun k hk => pbF_congr (fun i hi => h i (by omega)))
theorem pcF_mono {tw : Nat → Nat → Nat} {ne : Nat} {pl r : FF} {n : Nat} : ∀ {m : Nat}, n ≤ m → pcF tw ne pl r n ≤ pcF tw ne pl r m
  | 0, h => by
    rw [show n = 0 by omega]
    exact Nat.le_refl _
  | m + 1, h => by
    by_cases z : n = m + 1
    · rw [z]
      exact Nat.le_refl _
    · have := pcF_mono (tw := tw) (ne := ne) (pl := pl) (r := r) (show n ≤ m by omega)
      show _ ≤ sumN _ m + _
      exact Nat.le_trans this (Nat.le_add_right _ _)
theorem bStep_big {co : List Nat → Nat} {x : BS} : ∀ {l : List (List Nat)}, 0 < x.1 → (∀ r, r ∈ l → x.2.1 < co r) → l.foldl (bStep co) x = x
  | [], _, _ => rfl
  | r :: l, h, hr => by
    have h1 := hr r List.mem_cons_self
    have e : bStep co x r = x := by
      unfold bStep
      rw [if_neg (by omega), if_neg (by omega)]
    show l.foldl (bStep co) (bStep co x r) = x
    rw [e]
    exact bStep_big h (fun r' hr' => hr r' (List.mem_cons_of_mem _ hr'))
