/-! ints that are natural numbers -/
def n32 (n : Nat) : Int32 := Int32.ofNat n
theorem n32_add (a b : Nat) : n32 a + n32 b = n32 (a + b) := (Int32.ofNat_add a b).symm
theorem n32_mul (a b : Nat) : n32 a * n32 b = n32 (a * b) := (Int32.ofNat_mul a b).symm
theorem n32_sub {a b : Nat} (h : b ≤ a) : n32 a - n32 b = n32 (a - b) := (Int32.ofNat_sub a b h).symm
theorem n32_toInt {a : Nat} (h : a < 2147483648) : (n32 a).toInt = a := Int32.toInt_ofNat_of_lt h
theorem n32_lt {a b : Nat} (ha : a < 2147483648) (hb : b < 2147483648) : (n32 a < n32 b) = (a < b) := propext (Int32.ofNat_lt_iff_lt ha hb)
theorem n32_le {a b : Nat} (ha : a < 2147483648) (hb : b < 2147483648) : (n32 a ≤ n32 b) = (a ≤ b) := propext (Int32.ofNat_le_iff_le ha hb)
theorem n32_eq {a b : Nat} (ha : a < 2147483648) (hb : b < 2147483648) : (n32 a = n32 b) = (a = b) := by
  apply propext
  constructor
  · intro h
    have h1 := n32_toInt ha
    rw [h, n32_toInt hb] at h1
    omega
  · intro h
    rw [h]
theorem n32_clamp {a : Nat} (h : a < 2147483648) : (n32 a).toNatClampNeg = a := Int32.toNatClampNeg_ofNat_of_lt h
theorem n32_neg {a : Nat} (h : a < 2147483648) : (n32 a < n32 0) = False := by
  rw [n32_lt h (by decide)]
  simp
theorem n32_div {a b : Nat} (ha : a < 2147483648) (hb : b < 2147483648) : n32 a / n32 b = n32 (a / b) := (Int32.ofNat_div ha hb).symm
theorem n32_rem {a b : Nat} (ha : a < 2147483648) (hb : b < 2147483648) : n32 a - n32 a / n32 b * n32 b = n32 (a % b) := by
  rw [n32_div ha hb, n32_mul, n32_sub (Nat.div_mul_le_self a b)]
  congr 1
  have := Nat.div_add_mod a b
  rw [Nat.mul_comm] at this
  omega
theorem n32_in {a n : Nat} (h : a < n) (hn : n ≤ 2147483648) : ax_in (n32 a) n := by
  unfold ax_in
  rw [n32_clamp (by omega)]
  refine ⟨fun q => ?_, h⟩
  have q : n32 a < n32 0 := q
  rw [n32_neg (by omega)] at q
  exact q
theorem n32_in_eq {a n : Nat} (ha : a < 2147483648) : ax_in (n32 a) n = (a < n) := by
  unfold ax_in
  rw [n32_clamp ha]
  apply propext
  refine ⟨fun q => q.2, fun q => ⟨fun z => ?_, q⟩⟩
  have z : n32 a < n32 0 := z
  rw [n32_neg ha] at z
  exact z
/-- an int that isn't below 0 -/
theorem n32_of {x : Int32} (h : ¬ x < n32 0) : ∃ k, k < 2147483648 ∧ x = n32 k := by
  refine ⟨x.toNatClampNeg, Int32.toNatClampNeg_lt x, ?_⟩
  have h0 : 0 ≤ x := Int32.not_lt.mp h
  exact (Int32.ofNat_toNatClampNeg x h0).symm
theorem n32_m1 {a : Nat} (h : a < 2147483648) : (n32 a = -1) = False := by
  apply propext
  refine ⟨fun q => ?_, False.elim⟩
  have h1 := n32_toInt h
  rw [q] at h1
  have h2 : (-1 : Int32).toInt = -1 := by decide
  omega
theorem n32_m1' {a : Nat} (h : a < 2147483648) : ((-1 : Int32) = n32 a) = False := by
  rw [← n32_m1 h]
  exact propext eq_comm
theorem n32_m1lt {a : Nat} (h : a < 2147483648) : ((-1 : Int32) < n32 a) = True := by
  apply propext
  refine ⟨fun _ => trivial, fun _ => ?_⟩
  rw [Int32.lt_iff_toInt_lt, n32_toInt h]
  have h2 : (-1 : Int32).toInt = -1 := by decide
  omega
theorem n32_ltm1 {a : Nat} (h : a < 2147483648) : (n32 a < (-1 : Int32)) = False := by
  apply propext
  refine ⟨fun q => ?_, False.elim⟩
  rw [Int32.lt_iff_toInt_lt, n32_toInt h] at q
  have h2 : (-1 : Int32).toInt = -1 := by decide
  omega
/-- 'within' -/
def win (v lo hi : Int32) : Int32 := if v < lo then n32 0 else if hi < v then n32 0 else n32 1
theorem win_01 (v lo hi : Int32) : win v lo hi = n32 0 ∨ win v lo hi = n32 1 := by
  unfold win
  split
  · exact Or.inl rfl
  · split
    · exact Or.inl rfl
    · exact Or.inr rfl
theorem n32_10 : (n32 1 = n32 0) = False := by
  rw [n32_eq (by decide) (by decide)]
  simp
theorem n32_01 : (n32 0 = n32 1) = False := by
  rw [n32_eq (by decide) (by decide)]
  simp
theorem win_ne {v lo hi : Int32} : (¬ win v lo hi = n32 0) = (lo ≤ v ∧ v ≤ hi) := by
  apply propext
  unfold win
  constructor
  · intro h
    split at h
    · exact absurd rfl h
    · split at h
      · exact absurd rfl h
      · exact ⟨Int32.not_lt.mp ‹_›, Int32.not_lt.mp ‹_›⟩
  · rintro ⟨h1, h2⟩
    rw [if_neg (Int32.not_lt.mpr h1), if_neg (Int32.not_lt.mpr h2), n32_10]
    exact id
/-- within lo and hi: such a number -/
theorem win_nat {v : Int32} {a b : Nat} (ha : a < 2147483648) (hb : b < 2147483648) (h : ¬ win v (n32 a) (n32 b) = n32 0) : ∃ k, a ≤ k ∧ k ≤ b ∧ v = n32 k := by
  rw [win_ne] at h
  obtain ⟨k, hk, rfl⟩ := n32_of (x := v) (fun q => by
    have := Int32.lt_of_lt_of_le q (by have e : n32 0 ≤ n32 a := by rw [n32_le (by decide) ha]; omega
                                       exact Int32.le_trans e h.1)
    exact Int32.lt_irrefl this)
  rw [n32_le ha hk, n32_le hk hb] at h
  exact ⟨k, h.1, h.2, rfl⟩
theorem win_in {k a b : Nat} (hk : k < 2147483648) (ha : a < 2147483648) (hb : b < 2147483648) : (win (n32 k) (n32 a) (n32 b) = n32 0) = ¬ (a ≤ k ∧ k ≤ b) := by
  have := win_ne (v := n32 k) (lo := n32 a) (hi := n32 b)
  rw [n32_le ha hk, n32_le hk hb] at this
  rw [← this]
  simp
/-- within 0 and c - 1, as numbers below c are -/
theorem win_sub {v : Int32} {c : Nat} (hc : c < 2147483648) (h : ¬ win v (n32 0) (n32 c - n32 1) = n32 0) : ∃ k, k < c ∧ v = n32 k := by
  by_cases h0 : c = 0
  · subst h0
    rw [win_ne] at h
    have h1 := h.1
    have h2 := h.2
    rw [Int32.le_iff_toInt_le] at h1 h2
    have e1 : (n32 0 - n32 1).toInt = -1 := by decide
    have e0 : (n32 0).toInt = 0 := by decide
    omega
  · rw [n32_sub (by omega)] at h
    obtain ⟨k, -, h2, h3⟩ := win_nat (by decide) (by omega) h
    exact ⟨k, by omega, h3⟩
theorem win_subin {k c : Nat} (hk : k < c) (hc : c < 2147483648) : ¬ win (n32 k) (n32 0) (n32 c - n32 1) = n32 0 := by
  rw [n32_sub (by omega), win_in (by omega) (by decide) (by omega)]
  omega
theorem win_subout {v : Int32} {c : Nat} (hc : c < 2147483648) (h : win v (n32 0) (n32 c - n32 1) = n32 0) (k : Nat) (hk : k < c) : v ≠ n32 k := by
  rintro rfl
  exact win_subin hk hc h
/-- going up -/
theorem loop_up {P : Nat → Prop} {n : Nat} (h : ∀ i, i < n → P (i + 1) → P i) (hn : P n) : ∀ i, i ≤ n → P i := by
  intro i hi
  obtain ⟨k, rfl⟩ : ∃ k, n = i + k := ⟨n - i, by omega⟩
  induction k generalizing i with
  | zero => exact hn
  | succ k ih => exact h i (by omega) (ih (i + 1) (fun j hj => h j (by omega)) (by rw [show i + 1 + k = i + (k + 1) by omega]; exact hn) (by omega) |> fun q => q)
/-- a loop: P holds at x if it holds wherever the measure is less -/
theorem loop_wf {α : Type} (μ : α → Nat) {P : α → Prop} (h : ∀ x, (∀ y, μ y < μ x → P y) → P x) : ∀ x, P x := by
  intro x
  generalize hn : μ x = n
  induction n using Nat.strongRecOn generalizing x with
  | ind n ih => exact h x (fun y hy => ih (μ y) (by omega) y rfl)
def foldN {α : Type} (f : Nat → α → α) (x : α) : Nat → α
  | 0 => x
  | n + 1 => f n (foldN f x n)
def sumN (f : Nat → Nat) : Nat → Nat
  | 0 => 0
  | n + 1 => sumN f n + f n
theorem sumN_congr {f g : Nat → Nat} : ∀ {n : Nat}, (∀ i, i < n → f i = g i) → sumN f n = sumN g n
  | 0, _ => rfl
  | n + 1, h => by
    show sumN f n + f n = sumN g n + g n
    rw [sumN_congr (fun i hi => h i (by omega)), h n (by omega)]
theorem sumN_le {f : Nat → Nat} {b : Nat} : ∀ {n : Nat}, (∀ i, i < n → f i ≤ b) → sumN f n ≤ n * b
  | 0, _ => by simp [sumN]
  | n + 1, h => by
    have h1 := sumN_le (f := f) (b := b) (n := n) (fun i hi => h i (by omega))
    have h2 := h n (by omega)
    rw [Nat.succ_mul]
    show sumN f n + f n ≤ _
    omega
