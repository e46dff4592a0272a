/-! pure: sums, boards, how forms take cells -/
def allN : Nat → (Nat → Bool) → Bool
  | 0, _ => true
  | n + 1, p => p n && allN n p
theorem allN_at {p : Nat → Bool} : ∀ {n : Nat}, allN n p = true → ∀ i, i < n → p i = true
  | 0, _, i, hi => absurd hi (Nat.not_lt_zero i)
  | n + 1, h, i, hi => by
    unfold allN at h
    rw [Bool.and_eq_true] at h
    by_cases e : i = n
    · subst e
      exact h.1
    · exact allN_at h.2 i (by omega)
/-- to which cell a form takes one -/
def tk (W T f c : Nat) : Nat := match f with
  | 0 => c / W * W + (W - 1 - c % W)
  | 1 => (T - 1 - c / W) * W + c % W
  | 2 => (T - 1 - c / W) * W + (W - 1 - c % W)
  | 3 => c % W * W + c / W
  | 4 => (W - 1 - c % W) * W + (T - 1 - c / W)
  | 5 => c % W * W + (T - 1 - c / W)
  | 7 => (W - 1 - c % W) * W + c / W
  | _ => c
def isF (W T f : Nat) : Bool := f < 3 || f == 6 || (W == T && f < 8)
def likes (W T : Nat) : Nat := if W = T then 6 else 3
def geo1 (W T f c : Nat) : Bool := Nat.blt (tk W T f c) (W * T) && (!(Nat.blt f 5) || tk W T f (tk W T f c) == c) && (!(f == 5) || (tk W T 7 (tk W T 5 c) == c && tk W T 5 (tk W T 7 c) == c && tk W T 5 (tk W T 5 (tk W T 5 c)) == tk W T 7 c && (tk W T 5 c == c || (!(tk W T 5 (tk W T 5 c) == c) && !(tk W T 5 (tk W T 5 (tk W T 5 c)) == c)))))
def geoAll : Bool := allN 9 (fun W => allN 9 (fun T => allN 8 (fun f => !(isF W T f) || allN (W * T) (fun c => geo1 W T f c))))
theorem geo_ok : geoAll = true := by decide +kernel
theorem geo_at {W T f c : Nat} (hW : W ≤ 8) (hT : T ≤ 8) (hf : f < 8) (hF : isF W T f = true) (hc : c < W * T) : geo1 W T f c = true := by
  have h1 := allN_at (allN_at (allN_at geo_ok W (by omega)) T (by omega)) f hf
  rw [hF] at h1
  exact allN_at (by simpa using h1) c hc
theorem tk_lt {W T f c : Nat} (hW : W ≤ 8) (hT : T ≤ 8) (hf : f < 8) (hF : isF W T f = true) (hc : c < W * T) : tk W T f c < W * T := by
  have h := geo_at hW hT hf hF hc
  unfold geo1 at h
  simp only [Bool.and_eq_true] at h
  exact Nat.le_of_ble_eq_true h.1.1
theorem tk_inv {W T f c : Nat} (hW : W ≤ 8) (hT : T ≤ 8) (hf : f < 5) (hF : isF W T f = true) (hc : c < W * T) : tk W T f (tk W T f c) = c := by
  have h := geo_at hW hT (by omega) hF hc
  unfold geo1 at h
  simp only [Bool.and_eq_true] at h
  have h2 := h.1.2
  rw [show Nat.blt f 5 = true from Nat.ble_eq_true_of_le hf] at h2
  simpa using h2
theorem tk_57 {W T c : Nat} (hW : W ≤ 8) (hT : T ≤ 8) (hF : W = T) (hc : c < W * T) : tk W T 7 (tk W T 5 c) = c ∧ tk W T 5 (tk W T 7 c) = c ∧ tk W T 5 (tk W T 5 (tk W T 5 c)) = tk W T 7 c ∧ (tk W T 5 c = c ∨ (tk W T 5 (tk W T 5 c) ≠ c ∧ tk W T 5 (tk W T 5 (tk W T 5 c)) ≠ c)) := by
  have h := geo_at hW hT (f := 5) (by omega) (by simp [isF, hF]) hc
  unfold geo1 at h
  simp only [Bool.and_eq_true] at h
  simpa [and_assoc] using h.2
theorem isF_like {W T l : Nat} (h : l < likes W T) : isF W T l = true := by
  unfold likes at h
  unfold isF
  by_cases e : W = T
  · rw [if_pos e] at h
    simp [e]
    omega
  · rw [if_neg e] at h
    simp
    omega
/-- a cell by its row -/
theorem tk_xy {W x y : Nat} (hx : x < W) : (y * W + x) % W = x ∧ (y * W + x) / W = y := by
  constructor
  · rw [Nat.add_comm, Nat.add_mul_mod_self_right, Nat.mod_eq_of_lt hx]
  · rw [Nat.add_comm, Nat.add_mul_div_right _ _ (by omega), Nat.div_eq_of_lt hx, Nat.zero_add]
theorem xy_lt {W T x y : Nat} (hx : x < W) (hy : y < T) : y * W + x < W * T := by
  have h : (y + 1) * W ≤ T * W := Nat.mul_le_mul_right W hy
  rw [Nat.succ_mul, Nat.mul_comm T W] at h
  omega
theorem sumN_succ (f : Nat → Nat) (n : Nat) : sumN f (n + 1) = sumN f n + f n := rfl
theorem sumN_one {f g : Nat → Nat} {n i : Nat} (hi : i < n) (h : ∀ k, k < n → k ≠ i → g k = f k) : sumN g n + f i = sumN f n + g i := by
  induction n with
  | zero => omega
  | succ n ih =>
    show sumN g n + g n + f i = sumN f n + f n + g i
    by_cases e : i = n
    · subst e
      have := sumN_congr (f := g) (g := f) (n := i) (fun k hk => h k (by omega) (by omega))
      omega
    · have := ih (by omega) (fun k hk hne => h k (by omega) hne)
      have := h n (by omega) (by omega)
      omega
theorem sumN_two {f g : Nat → Nat} {n i j : Nat} (hi : i < n) (hj : j < n) (hij : i ≠ j) (h : ∀ k, k < n → k ≠ i → k ≠ j → g k = f k) : sumN g n + f i + f j = sumN f n + g i + g j := by
  have h1 := sumN_one (f := f) (g := fun k => if k = i then g i else f k) hi (fun k _ hk => by simp [hk])
  have h2 := sumN_one (f := fun k => if k = i then g i else f k) (g := g) hj (fun k hk hne => by
    by_cases e : k = i
    · simp [e]
    · simp [e, h k hk e hne])
  simp only [if_true, if_neg (Ne.symm hij)] at h1 h2
  omega
theorem sumN_ge {f : Nat → Nat} {n i : Nat} (hi : i < n) : f i ≤ sumN f n := by
  induction n with
  | zero => omega
  | succ n ih =>
    show f i ≤ sumN f n + f n
    by_cases e : i = n
    · subst e
      omega
    · have := ih (by omega)
      omega
theorem sumN_ge2 {f : Nat → Nat} {n i j : Nat} (hi : i < n) (hj : j < n) (hij : i ≠ j) : f i + f j ≤ sumN f n := by
  have := sumN_two (f := f) (g := fun k => if k = i ∨ k = j then 0 else f k) hi hj hij (fun k _ h1 h2 => by simp [h1, h2])
  simp at this
  omega
theorem sumN_zero {f : Nat → Nat} {n : Nat} : sumN f n = 0 ↔ ∀ i, i < n → f i = 0 := by
  induction n with
  | zero => simp [sumN]
  | succ n ih =>
    rw [sumN_succ]
    constructor
    · intro h i hi
      by_cases e : i = n
      · subst e
        omega
      · exact ih.mp (by omega) i (by omega)
    · intro h
      have := ih.mpr (fun i hi => h i (by omega))
      have := h n (by omega)
      omega
theorem sumN_add (f g : Nat → Nat) : ∀ n, sumN (fun i => f i + g i) n = sumN f n + sumN g n
  | 0 => rfl
  | n + 1 => by
    rw [sumN_succ, sumN_succ, sumN_succ, sumN_add f g n]
    omega
theorem sumN_const (c : Nat) : ∀ n, sumN (fun _ => c) n = n * c
  | 0 => by simp [sumN]
  | n + 1 => by
    rw [sumN_succ, sumN_const c n, Nat.succ_mul]
theorem sumN_swap (f : Nat → Nat → Nat) (m : Nat) : ∀ n, sumN (fun i => sumN (fun j => f i j) m) n = sumN (fun j => sumN (fun i => f i j) n) m
  | 0 => by
    simp only [sumN]
    rw [sumN_const]
    omega
  | n + 1 => by
    rw [sumN_succ, sumN_swap f m n]
    simp only [sumN_succ]
    rw [sumN_add]
/-- in rows -/
theorem sumN_rows (f : Nat → Nat) (W : Nat) : ∀ n, sumN f (n * W) = sumN (fun y => sumN (fun x => f (y * W + x)) W) n
  | 0 => by simp [sumN]
  | n + 1 => by
    have key : ∀ k, sumN f (n * W + k) = sumN f (n * W) + sumN (fun x => f (n * W + x)) k := by
      intro k
      induction k with
      | zero => rfl
      | succ k ih =>
        rw [← Nat.add_assoc, sumN_succ, sumN_succ, ih]
        omega
    rw [Nat.succ_mul, key, sumN_rows f W n, sumN_succ]
/-! boards -/
def updB (b : Nat → Nat) (c p : Nat) : Nat → Nat := fun j => if j = c then p else b j
theorem updB_self (b : Nat → Nat) (c p : Nat) : updB b c p c = p := if_pos rfl
theorem updB_ne {b : Nat → Nat} {c p j : Nat} (h : j ≠ c) : updB b c p j = b j := if_neg h
theorem updB_upd (b : Nat → Nat) (c p q : Nat) : updB (updB b c p) c q = updB b c q := by
  funext j
  unfold updB
  by_cases e : j = c <;> simp [e]
theorem updB_same {b : Nat → Nat} {c p : Nat} (h : b c = p) : updB b c p = b := by
  funext j
  unfold updB
  by_cases e : j = c <;> simp [e, h]
def nq (x y : Nat) : Nat := if x = y then 0 else 1
def cntF (n : Nat) (b : Nat → Nat) (p : Nat) : Nat := sumN (fun c => if b c = p then 1 else 0) n
def ptsF (n : Nat) (b : Nat → Nat) : Nat := sumN (fun p => if cntF n b p = 0 then 0 else 1) 10
theorem cnt_upd {n c : Nat} (b : Nat → Nat) (p q : Nat) (hc : c < n) : cntF n (updB b c p) q + (if b c = q then 1 else 0) = cntF n b q + (if p = q then 1 else 0) := by
  have := sumN_one (f := fun k => if b k = q then 1 else 0) (g := fun k => if updB b c p k = q then 1 else 0) hc (fun k _ hk => by simp [updB_ne hk])
  simp only [updB_self] at this
  exact this
theorem cnt_le (n : Nat) (b : Nat → Nat) (p : Nat) : cntF n b p ≤ n := by
  induction n with
  | zero => exact Nat.le_refl 0
  | succ n ih =>
    show cntF n b p + (if b n = p then 1 else 0) ≤ n + 1
    split <;> omega
theorem cnt_pos {n c : Nat} {b : Nat → Nat} (hc : c < n) : 1 ≤ cntF n b (b c) := by
  have := sumN_ge (f := fun k => if b k = b c then 1 else 0) hc
  simp only [if_true] at this
  exact this
theorem cnt_zero {n p : Nat} {b : Nat → Nat} : cntF n b p = 0 ↔ ∀ c, c < n → b c ≠ p := by
  unfold cntF
  rw [sumN_zero]
  constructor
  · intro h c hc e
    have := h c hc
    simp [e] at this
  · intro h c hc
    simp [h c hc]
theorem pts_upd {n c p : Nat} {b : Nat → Nat} (hc : c < n) (hb : b c < 10) (hp : p < 10) (hne : b c ≠ p) : ptsF n (updB b c p) + (if cntF n b (b c) = 1 then 1 else 0) = ptsF n b + (if cntF n b p = 0 then 1 else 0) := by
  have h := sumN_two (f := fun q => if cntF n b q = 0 then 0 else 1) (g := fun q => if cntF n (updB b c p) q = 0 then 0 else 1) hb hp hne (fun k _ h1 h2 => by
    have := cnt_upd b p k hc
    rw [if_neg (Ne.symm h1), if_neg (Ne.symm h2)] at this
    simp only [Nat.add_zero] at this
    simp only [this])
  have e1 := cnt_upd b p (b c) hc
  have e2 := cnt_upd b p p hc
  rw [if_pos rfl, if_neg (Ne.symm hne)] at e1
  rw [if_neg hne, if_pos rfl] at e2
  have e3 := cnt_pos (b := b) hc
  unfold ptsF
  generalize sumN (fun q => if cntF n b q = 0 then 0 else 1) 10 = A at *
  generalize sumN (fun q => if cntF n (updB b c p) q = 0 then 0 else 1) 10 = B at *
  generalize cntF n (updB b c p) (b c) = x1 at *
  generalize cntF n (updB b c p) p = x2 at *
  generalize cntF n b (b c) = y1 at *
  generalize cntF n b p = y2 at *
  by_cases q1 : y1 = 1 <;> by_cases q2 : y2 = 0
  all_goals
    simp only [q1, q2, if_true, if_false, show ¬ x2 = 0 by omega, show ¬ y1 = 0 by omega, show ¬ (1 : Nat) = 0 by omega] at h ⊢
    first
    | (rw [if_pos (by omega : x1 = 0)] at h; omega)
    | (rw [if_neg (by omega : ¬ x1 = 0)] at h; omega)
theorem pts_le (n : Nat) (b : Nat → Nat) : ptsF n b ≤ 10 := by
  have : ∀ k, sumN (fun p => if cntF n b p = 0 then 0 else 1) k ≤ k := by
    intro k
    induction k with
    | zero => exact Nat.le_refl 0
    | succ k ih =>
      rw [sumN_succ]
      split <;> omega
  exact this 10
def offF (W T : Nat) (b : Nat → Nat) (l : Nat) : Nat := sumN (fun c => nq (b c) (b (tk W T l c))) (W * T)
theorem nq_le (x y : Nat) : nq x y ≤ 1 := by unfold nq; split <;> omega
theorem nq_self (x : Nat) : nq x x = 0 := if_pos rfl
theorem nq_comm (x y : Nat) : nq x y = nq y x := by
  unfold nq
  by_cases h : x = y
  · simp [h]
  · simp [h, Ne.symm h]
theorem off_le (W T : Nat) (b : Nat → Nat) (l : Nat) : offF W T b l ≤ W * T := by
  unfold offF
  generalize W * T = n
  induction n with
  | zero => exact Nat.le_refl 0
  | succ n ih =>
    rw [sumN_succ]
    have := nq_le (b n) (b (tk W T l n))
    omega
/-- from which cell -/
def tkb (W T l c : Nat) : Nat := if l = 5 then tk W T 7 c else tk W T l c
theorem tkb_ok {W T l c : Nat} (hW : W ≤ 8) (hT : T ≤ 8) (hl : l < likes W T) (hc : c < W * T) : tkb W T l c < W * T ∧ tk W T l (tkb W T l c) = c ∧ ∀ j, j < W * T → tk W T l j = c → j = tkb W T l c := by
  have hF := isF_like hl
  have h6 : l < 6 := by
    unfold likes at hl
    split at hl <;> omega
  unfold tkb
  by_cases e : l = 5
  · subst e
    have e2 : W = T := by
      unfold likes at hl
      split at hl
      · assumption
      · omega
    rw [if_pos rfl]
    refine ⟨tk_lt hW hT (by omega) (by simp [isF, e2]) hc, (tk_57 hW hT e2 hc).2.1, fun j hj hh => ?_⟩
    rw [← hh, (tk_57 hW hT e2 hj).1]
  · rw [if_neg e]
    refine ⟨tk_lt hW hT (by omega) hF hc, tk_inv hW hT (by omega) hF hc, fun j hj hh => ?_⟩
    rw [← hh, tk_inv hW hT (by omega) hF hj]
theorem off_upd_fix {W T l c p : Nat} {b : Nat → Nat} (hW : W ≤ 8) (hT : T ≤ 8) (hl : l < likes W T) (hc : c < W * T) (h : tk W T l c = c) : offF W T (updB b c p) l = offF W T b l := by
  unfold offF
  apply sumN_congr
  intro j hj
  by_cases e : j = c
  · subst e
    rw [h, nq_self, nq_self]
  · have h2 : tk W T l j ≠ c := fun q => e (by
      have h3 := (tkb_ok hW hT hl hc).2.2
      rw [h3 j hj q, ← h3 c hc h])
    rw [updB_ne e, updB_ne h2]
theorem off_upd {W T l c p : Nat} {b : Nat → Nat} (hW : W ≤ 8) (hT : T ≤ 8) (hl : l < likes W T) (hc : c < W * T) (h : tk W T l c ≠ c) :
    offF W T (updB b c p) l + nq (b c) (b (tk W T l c)) + nq (b c) (b (tkb W T l c)) = offF W T b l + nq p (b (tk W T l c)) + nq p (b (tkb W T l c)) ∧ nq (b c) (b (tk W T l c)) + nq (b c) (b (tkb W T l c)) ≤ offF W T b l := by
  obtain ⟨h1, h2, h3⟩ := tkb_ok hW hT hl hc
  have hne : tkb W T l c ≠ c := fun q => by
    rw [q] at h2
    exact h h2
  have k := sumN_two (f := fun k => nq (b k) (b (tk W T l k))) (g := fun k => nq (updB b c p k) (updB b c p (tk W T l k))) hc h1 (Ne.symm hne) (fun k hk e1 e2 => by
    have : tk W T l k ≠ c := fun q => e2 (h3 k hk q)
    simp only [updB_ne e1, updB_ne this])
  have k2 := sumN_ge2 (f := fun k => nq (b k) (b (tk W T l k))) hc h1 (Ne.symm hne)
  simp only [h2, updB_self, updB_ne h, updB_ne hne] at k k2
  rw [nq_comm (b (tkb W T l c)) (b c)] at k k2
  rw [nq_comm (b (tkb W T l c)) p] at k
  exact ⟨k, k2⟩
