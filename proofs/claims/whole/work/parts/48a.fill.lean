/-! fills: all ways, in two orders -/
def catN {α : Type} (f : Nat → List α) : Nat → List α
  | 0 => []
  | n + 1 => catN f n ++ f n
theorem catN_len {α : Type} (f : Nat → List α) : ∀ n, (catN f n).length = sumN (fun i => (f i).length) n
  | 0 => rfl
  | n + 1 => by
    show (catN f n ++ f n).length = _
    rw [List.length_append, catN_len f n]
    rfl
theorem catN_mem {α : Type} {f : Nat → List α} {x : α} : ∀ {n : Nat}, x ∈ catN f n ↔ ∃ i, i < n ∧ x ∈ f i
  | 0 => by
    constructor
    · intro h
      cases h
    · rintro ⟨i, hi, -⟩
      exact absurd hi (Nat.not_lt_zero i)
  | n + 1 => by
    show x ∈ catN f n ++ f n ↔ _
    rw [List.mem_append, catN_mem]
    constructor
    · rintro (⟨i, hi, h⟩ | h)
      · exact ⟨i, by omega, h⟩
      · exact ⟨n, by omega, h⟩
    · rintro ⟨i, hi, h⟩
      by_cases z : i = n
      · rw [z] at h
        exact Or.inr h
      · exact Or.inl ⟨i, by omega, h⟩
abbrev FF : Type := Nat → Nat
def one1 (sol : FF → Bool) (f : FF) : List FF := if sol f = true then [f] else []
/-- the class: the first hole slowest -/
def lC (P : Nat) (sol : FF → Bool) : Nat → Nat → FF → List FF
  | 0, _, f => one1 sol f
  | k + 1, i, f => catN (fun p => lC P sol k (i + 1) (updB f i p)) P
def dig (P m : Nat) : FF := fun u => m / P ^ u % P
/-- the reference: the first hole fastest -/
def lM (P : Nat) (sol : FF → Bool) (H : Nat) : List FF := catN (fun m => one1 sol (dig P m)) (P ^ H)
def mix (P : Nat) (f : FF) (i m k : Nat) : FF := fun u => if u < i then f u else if u < i + k then m / P ^ (u - i) % P else f u
theorem mix_zero (P : Nat) (f : FF) (i m : Nat) : mix P f i m 0 = f := by
  funext u
  unfold mix
  by_cases h : u < i
  · rw [if_pos h]
  · rw [if_neg h, if_neg (by omega)]
theorem mix_succ {P p : Nat} (hp : p < P) (f : FF) (i m k : Nat) : mix P f i (m * P + p) (k + 1) = mix P (updB f i p) (i + 1) m k := by
  have hP : 0 < P := by omega
  have hdiv : (m * P + p) / P = m := by
    rw [Nat.mul_comm, Nat.mul_add_div hP, Nat.div_eq_of_lt hp, Nat.add_zero]
  funext u
  unfold mix
  by_cases h : u < i
  · rw [if_pos h, if_pos (by omega), updB_ne (by omega)]
  · rw [if_neg h]
    by_cases h2 : u = i
    · subst h2
      rw [if_pos (by omega), if_pos (by omega), updB_self, Nat.sub_self, Nat.pow_zero, Nat.div_one, Nat.mul_comm, Nat.mul_add_mod, Nat.mod_eq_of_lt hp]
    · rw [if_neg (show ¬ u < i + 1 by omega)]
      by_cases h3 : u < i + (k + 1)
      · rw [if_pos h3, if_pos (by omega), show u - i = (u - (i + 1)) + 1 by omega, Nat.pow_succ, Nat.mul_comm (P ^ (u - (i + 1))) P, ← Nat.div_div_eq_div_mul, hdiv]
      · rw [if_neg h3, if_neg (by omega), updB_ne h2]
theorem one1_len (sol : FF → Bool) (f : FF) : (one1 sol f).length = if sol f = true then 1 else 0 := by
  unfold one1
  split <;> rfl
theorem lC_len {P : Nat} {sol : FF → Bool} : ∀ (k i : Nat) (f : FF), (lC P sol k i f).length = sumN (fun m => if sol (mix P f i m k) = true then 1 else 0) (P ^ k)
  | 0, i, f => by
    show (one1 sol f).length = sumN _ 1
    rw [one1_len]
    show _ = 0 + (if sol (mix P f i 0 0) = true then 1 else 0)
    rw [mix_zero, Nat.zero_add]
  | k + 1, i, f => by
    show (catN _ P).length = _
    rw [catN_len, sumN_congr (g := fun p => sumN (fun m => if sol (mix P (updB f i p) (i + 1) m k) = true then 1 else 0) (P ^ k)) (fun p _ => lC_len k (i + 1) (updB f i p)), Nat.pow_succ, sumN_rows, sumN_swap]
    refine sumN_congr (fun m _ => sumN_congr (fun p hp => ?_))
    rw [mix_succ hp]
theorem lC_mem {P : Nat} {sol : FF → Bool} : ∀ {k i : Nat} {f g : FF}, g ∈ lC P sol k i f ↔ ∃ m, m < P ^ k ∧ g = mix P f i m k ∧ sol g = true
  | 0, i, f, g => by
    show g ∈ one1 sol f ↔ _
    unfold one1
    constructor
    · intro h
      split at h
      · rw [List.mem_singleton] at h
        exact ⟨0, by simp, by rw [mix_zero]; exact h, by rw [h]; assumption⟩
      · cases h
    · rintro ⟨m, -, h2, h3⟩
      rw [mix_zero] at h2
      rw [← h2, if_pos h3, List.mem_singleton]
  | k + 1, i, f, g => by
    show g ∈ catN _ P ↔ _
    rw [catN_mem]
    constructor
    · rintro ⟨p, hp, h⟩
      obtain ⟨m, hm, h2, h3⟩ := lC_mem.mp h
      refine ⟨m * P + p, ?_, by rw [mix_succ hp]; exact h2, h3⟩
      have h1 : (m + 1) * P ≤ P ^ k * P := Nat.mul_le_mul_right _ hm
      rw [Nat.pow_succ]
      rw [Nat.succ_mul] at h1
      omega
    · rintro ⟨m, hm, h2, h3⟩
      have hP : 0 < P := by
        rcases Nat.eq_zero_or_pos P with z | z
        · rw [z, Nat.pow_succ, Nat.mul_zero] at hm
          exact absurd hm (Nat.not_lt_zero _)
        · exact z
      have hmod : m % P < P := Nat.mod_lt _ hP
      have hsplit : m = m / P * P + m % P := by
        have := Nat.div_add_mod m P
        rw [Nat.mul_comm] at this
        omega
      refine ⟨m % P, hmod, lC_mem.mpr ⟨m / P, ?_, ?_, h3⟩⟩
      · rw [Nat.pow_succ] at hm
        exact Nat.div_lt_of_lt_mul (by rw [Nat.mul_comm]; exact hm)
      · rw [h2]
        have e := mix_succ hmod f i (m / P) k
        rw [← hsplit] at e
        exact e
theorem mix_dig {P H m u : Nat} {f : FF} (hu : u < H) : mix P f 0 m H u = dig P m u := by
  unfold mix dig
  rw [if_neg (Nat.not_lt_zero u), if_pos (by omega), Nat.sub_zero]
theorem lM_mem {P H : Nat} {sol : FF → Bool} {g : FF} : g ∈ lM P sol H ↔ ∃ m, m < P ^ H ∧ g = dig P m ∧ sol g = true := by
  unfold lM
  rw [catN_mem]
  constructor
  · rintro ⟨m, hm, h⟩
    unfold one1 at h
    split at h
    · rw [List.mem_singleton] at h
      exact ⟨m, hm, h, by rw [h]; assumption⟩
    · cases h
  · rintro ⟨m, hm, h2, h3⟩
    refine ⟨m, hm, ?_⟩
    unfold one1
    rw [← h2, if_pos h3, List.mem_singleton]
theorem lCM_len {P H : Nat} {sol : FF → Bool} (hs : ∀ f f' : FF, (∀ i, i < H → f i = f' i) → sol f = sol f') (f : FF) : (lC P sol H 0 f).length = (lM P sol H).length := by
  rw [lC_len]
  unfold lM
  rw [catN_len]
  refine sumN_congr (fun m _ => ?_)
  rw [one1_len, hs _ (dig P m) (fun i hi => mix_dig hi)]
theorem lC_M {P H : Nat} {sol : FF → Bool} (hs : ∀ f f' : FF, (∀ i, i < H → f i = f' i) → sol f = sol f') {f g : FF} (h : g ∈ lC P sol H 0 f) : ∃ g', g' ∈ lM P sol H ∧ ∀ u, u < H → g u = g' u := by
  obtain ⟨m, hm, h2, h3⟩ := lC_mem.mp h
  have e : ∀ u, u < H → g u = dig P m u := fun u hu => by rw [h2, mix_dig hu]
  exact ⟨dig P m, lM_mem.mpr ⟨m, hm, rfl, by rw [← hs g _ e]; exact h3⟩, e⟩
theorem lM_C {P H : Nat} {sol : FF → Bool} (hs : ∀ f f' : FF, (∀ i, i < H → f i = f' i) → sol f = sol f') (f : FF) {g : FF} (h : g ∈ lM P sol H) : ∃ g', g' ∈ lC P sol H 0 f ∧ ∀ u, u < H → g u = g' u := by
  obtain ⟨m, hm, h2, h3⟩ := lM_mem.mp h
  have e : ∀ u, u < H → g u = mix P f 0 m H u := fun u hu => by rw [h2, mix_dig hu]
  exact ⟨mix P f 0 m H, lC_mem.mpr ⟨m, hm, rfl, by rw [← hs g _ e]; exact h3⟩, e⟩
/-! what is sure -/
def SureV (x : Int32) (l : List FF) (j : Nat) : Prop := (∃ v, v < 10 ∧ x = n32 v ∧ ∀ f, f ∈ l → f j = v) ∨ (x = -1 ∧ ∃ f f', f ∈ l ∧ f' ∈ l ∧ f j ≠ f' j)
theorem SureV_one {f : FF} {j : Nat} (h : f j < 10) : SureV (n32 (f j)) [f] j := Or.inl ⟨f j, h, rfl, fun g hg => by rw [List.mem_singleton] at hg; rw [hg]⟩
theorem SureV_same {x : Int32} {l : List FF} {f : FF} {j : Nat} (h : SureV x l j) (hf : f j < 10) (e : x = n32 (f j)) : SureV x (l ++ [f]) j := by
  rcases h with ⟨v, h1, h2, h3⟩ | ⟨h1, -⟩
  · left
    refine ⟨v, h1, h2, fun g hg => ?_⟩
    rw [List.mem_append, List.mem_singleton] at hg
    rcases hg with hg | hg
    · exact h3 g hg
    · rw [hg]
      rw [h2, n32_eq (by omega) (by omega)] at e
      exact e.symm
  · rw [h1, n32_m1' (by omega)] at e
    exact e.elim
theorem SureV_diff {x : Int32} {l : List FF} {f : FF} {j : Nat} (h : SureV x l j) (hl : l ≠ []) (e : ¬ x = n32 (f j)) : SureV (-1) (l ++ [f]) j := by
  right
  refine ⟨rfl, ?_⟩
  rcases h with ⟨v, h1, h2, h3⟩ | ⟨-, g, g', q1, q2, q3⟩
  · obtain ⟨g, hg⟩ := List.exists_mem_of_ne_nil l hl
    refine ⟨g, f, List.mem_append_left _ hg, List.mem_append_right _ (List.mem_singleton.mpr rfl), fun z => e ?_⟩
    rw [h2, ← z, h3 g hg]
  · exact ⟨g, g', List.mem_append_left _ q1, List.mem_append_left _ q2, q3⟩
theorem SureV_uniq {x x' : Int32} {l l' : List FF} {j : Nat} (h : SureV x l j) (h' : SureV x' l' j) (hl : l ≠ []) (m1 : ∀ f, f ∈ l → ∃ f', f' ∈ l' ∧ f j = f' j) (m2 : ∀ f', f' ∈ l' → ∃ f, f ∈ l ∧ f' j = f j) : x = x' := by
  obtain ⟨g, hg⟩ := List.exists_mem_of_ne_nil l hl
  obtain ⟨g', hg', eg⟩ := m1 g hg
  rcases h with ⟨v, h1, h2, h3⟩ | ⟨h1, f, f', q1, q2, q3⟩
  · rcases h' with ⟨v', h1', h2', h3'⟩ | ⟨h1', f, f', q1, q2, q3⟩
    · rw [h2, h2', ← h3 g hg, eg, h3' g' hg']
    · obtain ⟨a, ha, ea⟩ := m2 f q1
      obtain ⟨b, hb, eb⟩ := m2 f' q2
      exact absurd (by rw [ea, eb, h3 a ha, h3 b hb]) q3
  · rcases h' with ⟨v', h1', h2', h3'⟩ | ⟨h1', -⟩
    · obtain ⟨a, ha, ea⟩ := m1 f q1
      obtain ⟨b, hb, eb⟩ := m1 f' q2
      exact absurd (by rw [ea, eb, h3' a ha, h3' b hb]) q3
    · rw [h1, h1']
/-! holes -/
def hl (h : Nat → Nat) : Nat → List Nat
  | 0 => []
  | n + 1 => if h n = 1 then hl h n ++ [n] else hl h n
theorem hl_len {h : Nat → Nat} : ∀ {n : Nat}, (∀ c, c < n → h c ≤ 1) → (hl h n).length = sumN h n
  | 0, _ => rfl
  | n + 1, hh => by
    have ih := hl_len (h := h) (n := n) (fun c hc => hh c (by omega))
    have h1 := hh n (by omega)
    show (if h n = 1 then hl h n ++ [n] else hl h n).length = sumN h n + h n
    by_cases z : h n = 1
    · rw [if_pos z, List.length_append, ih, z]
      rfl
    · rw [if_neg z, ih]
      omega
theorem hl_mem {h : Nat → Nat} {x : Nat} : ∀ {n : Nat}, x ∈ hl h n ↔ x < n ∧ h x = 1
  | 0 => by
    constructor
    · intro q
      cases q
    · intro q
      exact absurd q.1 (Nat.not_lt_zero x)
  | n + 1 => by
    show x ∈ (if h n = 1 then hl h n ++ [n] else hl h n) ↔ _
    by_cases z : h n = 1
    · rw [if_pos z, List.mem_append, List.mem_singleton, hl_mem]
      constructor
      · rintro (⟨q1, q2⟩ | q)
        · exact ⟨by omega, q2⟩
        · rw [q]
          exact ⟨by omega, z⟩
      · rintro ⟨q1, q2⟩
        by_cases e : x = n
        · exact Or.inr e
        · exact Or.inl ⟨by omega, q2⟩
    · rw [if_neg z, hl_mem]
      constructor
      · rintro ⟨q1, q2⟩
        exact ⟨by omega, q2⟩
      · rintro ⟨q1, q2⟩
        refine ⟨?_, q2⟩
        by_cases e : x = n
        · rw [e] at q2
          exact absurd q2 z
        · omega
theorem hl_app {h : Nat → Nat} {n i : Nat} (hi : i < (hl h n).length) : (hl h (n + 1)).getD i 0 = (hl h n).getD i 0 := by
  show (if h n = 1 then hl h n ++ [n] else hl h n).getD i 0 = _
  by_cases z : h n = 1
  · rw [if_pos z, getD_app, if_pos hi]
  · rw [if_neg z]
def hc (h : Nat → Nat) (n i : Nat) : Nat := (hl h n).getD i 0
theorem hc_mem {h : Nat → Nat} {n i : Nat} (hi : i < (hl h n).length) : hc h n i < n ∧ h (hc h n i) = 1 := by
  have : hc h n i ∈ hl h n := by
    unfold hc
    rw [List.getD_eq_getElem?_getD, List.getElem?_eq_getElem hi]
    exact List.getElem_mem hi
  exact hl_mem.mp this
theorem hc_of {h : Nat → Nat} {n x : Nat} (hx : x < n) (h1 : h x = 1) : ∃ i, i < (hl h n).length ∧ hc h n i = x := by
  obtain ⟨i, hi, e⟩ := List.getElem_of_mem (hl_mem.mpr ⟨hx, h1⟩)
  refine ⟨i, hi, ?_⟩
  unfold hc
  rw [List.getD_eq_getElem?_getD, List.getElem?_eq_getElem hi]
  exact e
theorem hc_lt {h : Nat → Nat} : ∀ {n i j : Nat}, i < j → j < (hl h n).length → hc h n i < hc h n j
  | 0, _, _, _, hj => absurd hj (Nat.not_lt_zero _)
  | n + 1, i, j, hij, hj => by
    by_cases z : j < (hl h n).length
    · unfold hc
      rw [hl_app (by omega), hl_app z]
      exact hc_lt hij z
    · have h1 : h n = 1 := by
        by_cases q : h n = 1
        · exact q
        · have : hl h (n + 1) = hl h n := if_neg q
          rw [this] at hj
          exact absurd hj z
      have e : hl h (n + 1) = hl h n ++ [n] := if_pos h1
      have hl1 : (hl h (n + 1)).length = (hl h n).length + 1 := by rw [e, List.length_append]; rfl
      have ej : hc h (n + 1) j = n := by
        unfold hc
        rw [e, getD_app, if_neg z, if_pos (by omega)]
      have ei : hc h (n + 1) i = hc h n i := hl_app (by omega)
      rw [ej, ei]
      exact (hc_mem (by omega)).1
theorem hc_inj {h : Nat → Nat} {n i j : Nat} (hi : i < (hl h n).length) (hj : j < (hl h n).length) (e : hc h n i = hc h n j) : i = j := by
  rcases Nat.lt_trichotomy i j with q | q | q
  · have := hc_lt q hj
    omega
  · exact q
  · have := hc_lt q hi
    omega
/-- the board with holes filled -/
def fB (b : Nat → Nat) (c : Nat → Nat) (f : FF) : Nat → Nat → Nat
  | 0 => b
  | k + 1 => updB (fB b c f k) (c k) (f k)
def PreB (B b : Nat → Nat) (c : Nat → Nat) (H : Nat) (f : FF) (i : Nat) : Prop := (∀ u, u < i → B (c u) = f u) ∧ ∀ j, (∀ u, u < H → c u ≠ j) → B j = b j
theorem fB_pre {b c : Nat → Nat} {f : FF} {H : Nat} (hinj : ∀ i j, i < H → j < H → c i = c j → i = j) : ∀ {k : Nat}, k ≤ H → (∀ u, u < k → fB b c f k (c u) = f u) ∧ ∀ j, (∀ u, u < k → c u ≠ j) → fB b c f k j = b j
  | 0, _ => ⟨fun u hu => absurd hu (Nat.not_lt_zero u), fun j _ => rfl⟩
  | k + 1, hk => by
    obtain ⟨h1, h2⟩ := fB_pre (b := b) (f := f) hinj (show k ≤ H by omega)
    refine ⟨fun u hu => ?_, fun j hj => ?_⟩
    · show updB (fB b c f k) (c k) (f k) (c u) = f u
      by_cases z : u = k
      · rw [z, updB_self]
      · rw [updB_ne (fun e => z (hinj u k (by omega) (by omega) e))]
        exact h1 u (by omega)
    · show updB (fB b c f k) (c k) (f k) j = b j
      rw [updB_ne (fun e => hj k (by omega) e.symm)]
      exact h2 j (fun u hu => hj u (by omega))
theorem PreB_eq {B b c : Nat → Nat} {f : FF} {H : Nat} (hinj : ∀ i j, i < H → j < H → c i = c j → i = j) (h : PreB B b c H f H) : B = fB b c f H := by
  obtain ⟨h1, h2⟩ := fB_pre (b := b) (f := f) hinj (Nat.le_refl H)
  funext j
  by_cases z : ∃ u, u < H ∧ c u = j
  · obtain ⟨u, hu, e⟩ := z
    rw [← e, h.1 u hu, h1 u hu]
  · have z' : ∀ u, u < H → c u ≠ j := fun u hu e => z ⟨u, hu, e⟩
    rw [h.2 j z', h2 j z']
theorem fB_congr {b c : Nat → Nat} {f f' : FF} : ∀ {k : Nat}, (∀ i, i < k → f i = f' i) → fB b c f k = fB b c f' k
  | 0, _ => rfl
  | k + 1, h => by
    show updB (fB b c f k) (c k) (f k) = updB (fB b c f' k) (c k) (f' k)
    rw [fB_congr (fun i hi => h i (by omega)), h k (by omega)]
theorem PreB_put {B b c : Nat → Nat} {f : FF} {H i p : Nat} (hinj : ∀ i j, i < H → j < H → c i = c j → i = j) (h : PreB B b c H f i) (hi : i < H) : PreB (updB B (c i) p) b c H (updB f i p) (i + 1) := by
  refine ⟨fun u hu => ?_, fun j hj => ?_⟩
  · by_cases z : u = i
    · rw [z, updB_self, updB_self]
    · rw [updB_ne z, updB_ne (fun e => z (hinj u i (by omega) hi e))]
      exact h.1 u (by omega)
  · rw [updB_ne (fun e => hj i hi e.symm)]
    exact h.2 j hj
theorem PreB_down {B b c : Nat → Nat} {f : FF} {H i p : Nat} (h : PreB B b c H (updB f i p) (i + 1)) : PreB B b c H f i := ⟨fun u hu => by
  have := h.1 u (by omega)
  rw [updB_ne (by omega)] at this
  exact this, h.2⟩
