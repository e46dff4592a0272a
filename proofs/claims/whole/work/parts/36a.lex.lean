/-! texts split into tokens -/
def wds : List (List Nat) := [[108, 105, 107, 101], [111, 102, 102], [119, 105, 100, 101], [116, 97, 108, 108], [97, 114, 101, 97], [111, 119, 110, 101, 114], [100, 97, 121], [112, 97, 114, 116, 115], [116, 97, 120], [115, 112, 97, 114, 101, 115], [105, 102], [111, 114], [97, 110, 100], [110, 111, 116]]
def wd (w : Nat) : List Nat := wds.getD w []
def cw (k : Nat) : Nat := if k < 7 then k + 7 else k - 7
def sl (B : Nat → Nat) (a z : Nat) : List Nat := (List.range (z - a)).map (fun i => B (a + i))
def cF (s : List Nat) : Nat → Nat → Nat
  | 0, _ => 0
  | f + 1, k => if wd (cw k) = s then k else cF s f (k + 1)
def codeOf (s : List Nat) : Nat := cF s 14 1
theorem sl_len (B : Nat → Nat) (a z : Nat) : (sl B a z).length = z - a := by simp [sl]
theorem sl_iff {B : Nat → Nat} {a z : Nat} {l : List Nat} : l = sl B a z ↔ l.length = z - a ∧ ∀ i, i < l.length → l.getD i 0 = B (a + i) := by
  constructor
  · intro h
    subst h
    refine ⟨sl_len B a z, fun i hi => ?_⟩
    rw [sl_len] at hi
    simp [sl, hi]
  · rintro ⟨h1, h2⟩
    apply List.ext_getElem
    · rw [h1, sl_len]
    · intro i hi1 hi2
      have := h2 i hi1
      rw [List.getD_eq_getElem?_getD, List.getElem?_eq_getElem hi1] at this
      simp only [Option.getD_some] at this
      rw [this]
      simp [sl]
theorem codeOf_wd : ∀ w, w < 14 → wdI (codeOf (wd w)) = n32 w := by decide
theorem cF_le {s : List Nat} : ∀ {f k : Nat}, 1 ≤ k → k + f ≤ 15 → cF s f k ≤ 14
  | 0, k, _, _ => by simp [cF]
  | f + 1, k, h1, h2 => by
    unfold cF
    split
    · omega
    · exact cF_le (by omega) (by omega)
theorem codeOf_le (s : List Nat) : codeOf s ≤ 14 := cF_le (by omega) (by omega)
theorem cF_none {s : List Nat} : ∀ {f k : Nat}, (∀ j, k ≤ j → j < k + f → wd (cw j) ≠ s) → cF s f k = 0
  | 0, k, _ => rfl
  | f + 1, k, h => by
    unfold cF
    rw [if_neg (h k (by omega) (by omega))]
    exact cF_none (fun j h1 h2 => h j (by omega) (by omega))
theorem codeOf_none {s : List Nat} (h : ∀ w, w < 14 → wd w ≠ s) : codeOf s = 0 := cF_none (fun j h1 h2 => h (cw j) (by unfold cw; split <;> omega))
def kb (b : Nat) : Nat := if 97 ≤ b ∧ b ≤ 122 then 2 else if 48 ≤ b ∧ b ≤ 57 then 1 else 3
def rEnd (B : Nat → Nat) (n k : Nat) : Nat → Nat → Nat
  | 0, t => t
  | f + 1, t => if t < n ∧ kb (B t) = k then rEnd B n k f (t + 1) else t
theorem rEnd_le {B : Nat → Nat} {n k : Nat} : ∀ {f t : Nat}, t ≤ rEnd B n k f t
  | 0, t => Nat.le_refl t
  | f + 1, t => by
    unfold rEnd
    split
    · exact Nat.le_trans (Nat.le_succ t) rEnd_le
    · exact Nat.le_refl t
theorem rEnd_n {B : Nat → Nat} {n k : Nat} : ∀ {f t : Nat}, t ≤ n → rEnd B n k f t ≤ n
  | 0, t, h => h
  | f + 1, t, h => by
    unfold rEnd
    split
    · rename_i q
      exact rEnd_n q.1
    · exact h
/-- all of the run are of its kind -/
theorem rEnd_k {B : Nat → Nat} {n k : Nat} : ∀ {f t : Nat}, ∀ i, t ≤ i → i < rEnd B n k f t → kb (B i) = k
  | 0, t, i, h1, h2 => by
    unfold rEnd at h2
    omega
  | f + 1, t, i, h1, h2 => by
    unfold rEnd at h2
    split at h2
    · rename_i q
      by_cases e : i = t
      · subst e
        exact q.2
      · exact rEnd_k i (by omega) h2
    · omega
def toE (B : Nat → Nat) (n a : Nat) : Nat := if kb (B a) = 3 then a + 1 else rEnd B n (kb (B a)) 400 (a + 1)
theorem toE_gt {B : Nat → Nat} {n a : Nat} : a < toE B n a := by
  unfold toE
  split
  · omega
  · exact rEnd_le
theorem toE_n {B : Nat → Nat} {n a : Nat} (h : a < n) : toE B n a ≤ n := by
  unfold toE
  split
  · omega
  · exact rEnd_n h
def nV (B : Nat → Nat) : Nat → Nat → Nat → Nat
  | 0, _, x => x
  | f + 1, i, x => nV B f (i + 1) (min (x * 10 + (B i - 48)) 1001)
theorem nV_le {B : Nat → Nat} : ∀ {f i x : Nat}, x ≤ 1001 → nV B f i x ≤ 1001
  | 0, _, _, h => h
  | f + 1, i, x, _ => by
    unfold nV
    exact nV_le (Nat.min_le_right _ _)
def tcd (B : Nat → Nat) (n a : Nat) : Nat := if kb (B a) = 2 then codeOf (sl B a (toE B n a)) else if kb (B a) = 1 then 50 else 100 + B a
def tvl (B : Nat → Nat) (n a : Nat) : Nat := if kb (B a) = 1 then nV B (toE B n a - a) a 0 else 0
def lexN (B : Nat → Nat) (n : Nat) : Nat → Nat → List (Nat × Nat × Nat)
  | 0, _ => []
  | f + 1, a => if a < n then (if B a = 32 then lexN B n f (toE B n a) else (a, tcd B n a, tvl B n a) :: lexN B n f (toE B n a)) else []
theorem lexN_len {B : Nat → Nat} {n : Nat} : ∀ {f a : Nat}, a ≤ n → (lexN B n f a).length + a ≤ n
  | 0, a, h => by simpa [lexN] using h
  | f + 1, a, h => by
    unfold lexN
    split
    · rename_i q
      have h1 := toE_gt (B := B) (n := n) (a := a)
      have h2 := toE_n (B := B) q
      have ih := lexN_len (B := B) (f := f) h2
      split
      · omega
      · simp only [List.length_cons]
        omega
    · simpa using h
def lx (B : Nat → Nat) (n : Nat) : List (Nat × Nat × Nat) := lexN B n 401 0
def lxC (l : List (Nat × Nat × Nat)) (i : Nat) : Nat := (l.getD i (0, 0, 0)).2.1
def lxV (l : List (Nat × Nat × Nat)) (i : Nat) : Nat := (l.getD i (0, 0, 0)).2.2
def lxP (l : List (Nat × Nat × Nat)) (n i : Nat) : Nat := (l.getD i (n, 0, 0)).1
/-- tokens as the class keeps them -/
def kcd (c : Nat) : Nat := if 100 ≤ c then 3 else if c = 50 then 1 else 2
def kvl (c v : Nat) : Int32 := if 100 ≤ c then n32 (c - 100) else if c = 50 then n32 v else wdI c
def StC (f1 f2 f3 : Nat → Int32) (n : Nat) : Nat → List (Nat × Nat × Nat) → Prop
  | i, [] => f1 i = n32 0 ∧ f2 i = n32 0 ∧ f3 i = n32 n
  | i, x :: l => f1 i = n32 (kcd x.2.1) ∧ f2 i = kvl x.2.1 x.2.2 ∧ f3 i = n32 x.1 ∧ StC f1 f2 f3 n (i + 1) l
/-- tokens as the reference keeps them -/
def StM (f1 f2 f3 : Nat → Int32) (n : Nat) : Nat → List (Nat × Nat × Nat) → Prop
  | i, [] => f1 i = n32 0 ∧ f3 i = n32 n
  | i, x :: l => f1 i = n32 x.2.1 ∧ (x.2.1 = 50 → ∃ q, q < 2147483648 ∧ f2 i = n32 q ∧ min q 1001 = x.2.2) ∧ f3 i = n32 x.1 ∧ StM f1 f2 f3 n (i + 1) l
def LxOK (l : List (Nat × Nat × Nat)) (n : Nat) : Prop := ∀ x ∈ l, x.1 < n ∧ (x.2.1 ≤ 14 ∨ x.2.1 = 50 ∨ (100 ≤ x.2.1 ∧ x.2.1 < 356)) ∧ x.2.2 ≤ 1001
theorem lexN_ok {B : Nat → Nat} {n : Nat} (hB : ∀ i, i < n → B i < 256) : ∀ {f a : Nat}, LxOK (lexN B n f a) n
  | 0, a => by simp [lexN, LxOK]
  | f + 1, a => by
    unfold lexN
    split
    · rename_i q
      have ih := lexN_ok hB (f := f) (a := toE B n a)
      split
      · exact ih
      · intro x hx
        rcases List.mem_cons.mp hx with rfl | hx
        · refine ⟨q, ?_, ?_⟩
          · show tcd B n a ≤ 14 ∨ tcd B n a = 50 ∨ (100 ≤ tcd B n a ∧ tcd B n a < 356)
            unfold tcd
            have := hB a q
            have c1 := codeOf_le (sl B a (toE B n a))
            split
            · omega
            · split <;> omega
          · show tvl B n a ≤ 1001
            unfold tvl
            split
            · exact nV_le (by omega)
            · omega
        · exact ih x hx
    · simp [LxOK]
theorem lx_ok {B : Nat → Nat} {n : Nat} (hB : ∀ i, i < n → B i < 256) : LxOK (lx B n) n := lexN_ok hB
theorem lx_len {B : Nat → Nat} {n : Nat} : (lx B n).length ≤ n := by
  have := lexN_len (B := B) (n := n) (f := 401) (a := 0) (Nat.zero_le _)
  unfold lx
  omega
theorem StC_at {f1 f2 f3 : Nat → Int32} {n : Nat} : ∀ {l : List (Nat × Nat × Nat)} {i j : Nat}, StC f1 f2 f3 n i l → j < l.length → f1 (i + j) = n32 (kcd (lxC l j)) ∧ f2 (i + j) = kvl (lxC l j) (lxV l j) ∧ f3 (i + j) = n32 (lxP l n j)
  | [], i, j, _, hj => absurd hj (by simp)
  | x :: l, i, 0, h, _ => ⟨h.1, h.2.1, h.2.2.1⟩
  | x :: l, i, j + 1, h, hj => by
    have := StC_at (j := j) h.2.2.2 (by simpa using hj)
    rw [show i + 1 + j = i + (j + 1) by omega] at this
    exact this
theorem StC_end {f1 f2 f3 : Nat → Int32} {n : Nat} : ∀ {l : List (Nat × Nat × Nat)} {i : Nat}, StC f1 f2 f3 n i l → f1 (i + l.length) = n32 0 ∧ f2 (i + l.length) = n32 0 ∧ f3 (i + l.length) = n32 n
  | [], i, h => h
  | x :: l, i, h => by
    have := StC_end h.2.2.2
    rw [show i + 1 + l.length = i + (x :: l).length by simp only [List.length_cons]; omega] at this
    exact this
theorem StM_at {f1 f2 f3 : Nat → Int32} {n : Nat} : ∀ {l : List (Nat × Nat × Nat)} {i j : Nat}, StM f1 f2 f3 n i l → j < l.length → f1 (i + j) = n32 (lxC l j) ∧ (lxC l j = 50 → ∃ q, q < 2147483648 ∧ f2 (i + j) = n32 q ∧ min q 1001 = lxV l j) ∧ f3 (i + j) = n32 (lxP l n j)
  | [], i, j, _, hj => absurd hj (by simp)
  | x :: l, i, 0, h, _ => ⟨h.1, h.2.1, h.2.2.1⟩
  | x :: l, i, j + 1, h, hj => by
    have := StM_at (j := j) h.2.2.2 (by simpa using hj)
    rw [show i + 1 + j = i + (j + 1) by omega] at this
    exact this
theorem StM_end {f1 f2 f3 : Nat → Int32} {n : Nat} : ∀ {l : List (Nat × Nat × Nat)} {i : Nat}, StM f1 f2 f3 n i l → f1 (i + l.length) = n32 0 ∧ f3 (i + l.length) = n32 n
  | [], i, h => h
  | x :: l, i, h => by
    have := StM_end h.2.2.2
    rw [show i + 1 + l.length = i + (x :: l).length by simp only [List.length_cons]; omega] at this
    exact this
theorem lx_get {l : List (Nat × Nat × Nat)} {n j : Nat} (h : LxOK l n) (hj : j < l.length) : (lxC l j ≤ 14 ∨ lxC l j = 50 ∨ (100 ≤ lxC l j ∧ lxC l j < 356)) ∧ lxV l j ≤ 1001 ∧ lxP l n j < n := by
  have e : l.getD j (0, 0, 0) = l[j] := by simp [List.getD_eq_getElem?_getD, hj]
  have e2 : l.getD j (n, 0, 0) = l[j] := by simp [List.getD_eq_getElem?_getD, hj]
  have := h l[j] (List.getElem_mem hj)
  unfold lxC lxV lxP
  rw [e, e2]
  exact ⟨this.2.1, this.2.2, this.1⟩
theorem lx_out {l : List (Nat × Nat × Nat)} {n j : Nat} (hj : l.length ≤ j) : lxC l j = 0 ∧ lxP l n j = n := by
  unfold lxC lxP
  simp [List.getD_eq_getElem?_getD, hj]
theorem StC_Tok {gi : GI} {l : List (Nat × Nat × Nat)} {n : Nat} (hl : LxOK l n) (hn : l.length ≤ 400) (h : StC (gi 31 0) (gi 32 0) (gi 33 0) n 0 l) : TokC gi (lxC l) (lxV l) l.length ∧ ∀ f, f ≤ l.length → gi 33 0 f = n32 (lxP l n f) := by
  refine ⟨⟨hn, fun a ha => (lx_out (n := n) ha).1, fun a ha => ?_⟩, fun f hf => ?_⟩
  · rcases Nat.lt_or_ge a l.length with q | q
    · obtain ⟨h1, h2, h3⟩ := StC_at h q
      rw [Nat.zero_add] at h1 h2 h3
      obtain ⟨g1, g2, g3⟩ := lx_get hl q
      refine ⟨g1, fun z => ?_, fun z => ?_, fun z => ⟨fun z2 => by omega, fun _ => ?_⟩⟩
      · rw [h1, h2]
        unfold kcd kvl
        rw [if_pos z, if_pos z]
        exact ⟨rfl, rfl⟩
      · rw [h1, h2, z]
        exact ⟨rfl, rfl, g2⟩
      · rw [h1, h2]
        unfold kcd kvl
        rw [if_neg (by omega), if_neg (by omega), if_neg (by omega), if_neg (by omega)]
        exact ⟨rfl, rfl⟩
    · have e : a = l.length := by omega
      subst e
      have h0 := (lx_out (l := l) (n := n) (Nat.le_refl _)).1
      have he := StC_end h
      rw [Nat.zero_add] at he
      rw [h0]
      exact ⟨by omega, fun z => by omega, fun z => by omega, fun _ => ⟨fun _ => ⟨he.1, he.2.1⟩, fun z => by omega⟩⟩
  · rcases Nat.lt_or_ge f l.length with q | q
    · have := (StC_at h q).2.2
      rw [Nat.zero_add] at this
      exact this
    · have e : f = l.length := by omega
      subst e
      rw [(lx_out (l := l) (n := n) (Nat.le_refl _)).2]
      have he := StC_end h
      rw [Nat.zero_add] at he
      exact he.2.2
theorem StM_Tok {gi : GI} {l : List (Nat × Nat × Nat)} {n : Nat} (hl : LxOK l n) (hn : l.length ≤ 400) (hn4 : n ≤ 400) (h : StM (gi 70 0) (gi 71 0) (gi 72 0) n 0 l) : TokM gi (lxC l) (lxV l) l.length ∧ (∀ f, f ≤ l.length → gi 72 0 f = n32 (lxP l n f)) ∧ ∀ i, i < l.length → lxC l i = 50 → lxV l i ≤ 1000 → gi 71 0 i = n32 (lxV l i) := by
  have hpl : ∀ f, f ≤ l.length → gi 72 0 f = n32 (lxP l n f) ∧ lxP l n f < 2147483648 := by
    intro f hf
    rcases Nat.lt_or_ge f l.length with q | q
    · have := (StM_at h q).2.2
      rw [Nat.zero_add] at this
      have g3 := (lx_get hl q).2.2
      exact ⟨this, by omega⟩
    · have e : f = l.length := by omega
      subst e
      rw [(lx_out (l := l) (n := n) (Nat.le_refl _)).2]
      have he := StM_end h
      rw [Nat.zero_add] at he
      exact ⟨he.2, by omega⟩
  refine ⟨⟨hn, fun a ha => (lx_out (n := n) ha).1, fun a ha => ?_⟩, fun f hf => (hpl f hf).1, fun i hi h50 hv => ?_⟩
  · rcases Nat.lt_or_ge a l.length with q | q
    · obtain ⟨h1, h2, h3⟩ := StM_at h q
      rw [Nat.zero_add] at h1 h2 h3
      obtain ⟨g1, g2, g3⟩ := lx_get hl q
      refine ⟨by omega, h1, ⟨_, (hpl a ha).2, (hpl a ha).1⟩, fun z => ?_⟩
      obtain ⟨y, y1, y2, y3⟩ := h2 z
      exact ⟨y, y1, y2, by omega⟩
    · have e : a = l.length := by omega
      subst e
      have h0 := (lx_out (l := l) (n := n) (Nat.le_refl _)).1
      have he := StM_end h
      rw [Nat.zero_add] at he
      refine ⟨by rw [h0]; decide, by rw [h0]; exact he.1, ⟨_, (hpl _ ha).2, (hpl _ ha).1⟩, fun z => by rw [h0] at z; omega⟩
  · obtain ⟨h1, h2, h3⟩ := StM_at h hi
    rw [Nat.zero_add] at h2
    obtain ⟨y, y1, y2, y3⟩ := h2 h50
    rw [y2]
    congr 1
    omega
