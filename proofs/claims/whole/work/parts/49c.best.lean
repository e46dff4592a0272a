/-! the class seeks the best way to put the street -/
def coF (tw : Nat → Nat → Nat) (ne : Nat) (pl : FF) (price n : Nat) (r : List Nat) : Nat := price * pcF tw ne pl (gt r) n
theorem coF_le {tw : Nat → Nat → Nat} {ne : Nat} {pl : FF} {price n : Nat} {r : List Nat} (h : ∀ a b, tw a b ≤ 1) (hp : price ≤ 999) (hn : n ≤ 6) : coF tw ne pl price n r ≤ 36000 := by
  have h1 := pcF_le (ne := ne) (pl := pl) (r := gt r) h hn
  have h2 : pcF tw ne pl (gt r) n ≤ 36 := Nat.le_trans h1 (by omega)
  exact Nat.le_trans (Nat.mul_le_mul hp h2) (by omega)
theorem bs1_le {co : List Nat → Nat} : ∀ {l : List (List Nat)} {x : BS}, (l.foldl (bStep co) x).1 ≤ x.1 + l.length
  | [], x => Nat.le_refl _
  | r :: l, x => by
    have h := bs1_le (co := co) (l := l) (x := bStep co x r)
    have h2 : (bStep co x r).1 ≤ x.1 + 1 := by
      unfold bStep
      split
      · exact Nat.le_add_left _ _
      · split
        · exact Nat.le_refl _
        · exact Nat.le_add_right _ _
    show (l.foldl (bStep co) (bStep co x r)).1 ≤ x.1 + (l.length + 1)
    omega
theorem bs2_le {co : List Nat → Nat} {B : Nat} (hB : ∀ r, co r ≤ B) : ∀ {l : List (List Nat)} {x : BS}, x.2.1 ≤ B → (l.foldl (bStep co) x).2.1 ≤ B
  | [], x, h => h
  | r :: l, x, h => by
    refine bs2_le hB (l := l) (x := bStep co x r) ?_
    unfold bStep
    split
    · exact hB r
    · split
      · exact h
      · exact h
theorem prm_len : ∀ {k : Nat} {S : Nat → Bool}, (prm k S).length ≤ 6 ^ k
  | 0, S => Nat.le_refl _
  | k + 1, S => by
    show (catN _ 6).length ≤ _
    rw [catN_len]
    refine Nat.le_trans (sumN_le (b := 6 ^ k) (fun i _ => ?_)) (by rw [Nat.pow_succ]; omega)
    split
    · rw [List.length_map]
      exact prm_len
    · exact Nat.zero_le _
theorem gt_app {r r' : List Nat} {i : Nat} (h : i < r.length) : gt (r ++ r') i = gt r i := by
  unfold gt
  rw [List.getD_eq_getElem?_getD, List.getElem?_append_left h, List.getD_eq_getElem?_getD]
def PutB (gi gi' : GI) : Prop := ∀ s a j, s ≠ 50 → s ≠ 51 → s ≠ 52 → (s ≠ 10 ∨ (j ≠ 2 ∧ j ≠ 3)) → gi' s a j = gi s a j
def BV (gi : GI) (n : Nat) (x : BS) : Prop := gi 10 0 3 = n32 x.1 ∧ gi 10 0 2 = n32 x.2.1 ∧ (0 < x.1 → ∀ u, u < n → gi 51 0 u = n32 (gt x.2.2 u))
def PutS (gi0 gi : GI) (S : Nat → Bool) (r : List Nat) (n : Nat) (x : BS) : Prop := PutB gi0 gi ∧ SetW gi S ∧ (∀ i, i < r.length → gi 50 0 i = n32 (gt r i)) ∧ BV gi n x
theorem c_sfound {d n : Nat} {gi0 gi : GI} {g : AG} {S : Nat → Bool} {r : List Nat} {x : BS} {co : List Nat → Nat} {Q : Option AV → AH → Prop} (hG : GOK g) (h : PutS gi0 gi S r n x) (hr : r.length = n) (hn : n ≤ 6) (hx : x.1 < 1000000) (hc : co r ≤ 36000) (hx2 : x.2.1 ≤ 36000) (hz : ¬ (0 < x.1 ∧ x.2.1 < co r))
    (hq : ∀ gi', PutS gi0 gi' S r n (bStep co x r) → Q none (gi', g)) :
    ax_call (d + 1) m_Street_found [.inr (.inr (some (10, 0))), .inl (n32 (co r))] (gi, g) Q := by
  obtain ⟨hB, hW, h50, hv⟩ := h
  have c0 : (n32 0).toNatClampNeg = 0 := by decide
  have c6 : (n32 6).toNatClampNeg = 6 := by decide
  have nn : ¬ n32 6 < n32 0 := by decide
  have n0 : ¬ n32 0 < n32 0 := by decide
  have hit : (x.1 = 0 ∨ co r < x.2.1) → Runs d (m_Street_found, 15, [some (.inr (.inr (some (10, 0)))), some (.inl (n32 (co r)))], []) (gi, g) Q := by
    intro z
    rw [b_Street_found_15, c0, c6]
    refine ⟨G_10_9 hG 0, G_10_10 hG 0, ⟨⟨n0, n0, nn, by omega, by omega⟩, Or.inl rfl⟩, ?_⟩
    rw [b_Street_found_40]
    have e3 : ax_cI (ax_wI (ax_wI gi 10 0 2 (n32 (co r))) 10 0 3 (n32 0)) 50 0 0 51 0 0 6 10 0 3 = n32 0 := by rw [cI_at, if_neg (by omega), wI_self]
    have eb : bStep co x r = (1, co r, r) := by
      unfold bStep
      rw [if_pos z]
    rw [e3, n32_add]
    refine hq _ ⟨fun s a j q1 q2 q3 q4 => ?_, fun t ht => ?_, fun i hi => ?_, ?_⟩
    · rw [wI_at, if_neg (by omega), cI_at, if_neg (by omega), wI_at, if_neg (by omega), wI_at, if_neg (by omega)]
      exact hB s a j q1 q2 q3 q4
    · rw [wI_ne (by decide), cI_at, if_neg (by omega), wI_ne (by decide), wI_ne (by decide)]
      exact hW t ht
    · rw [wI_ne (by decide), cI_at, if_neg (by omega), wI_ne (by decide), wI_ne (by decide)]
      exact h50 i hi
    · rw [eb]
      refine ⟨by rw [wI_self], ?_, fun _ u hu => ?_⟩
      · rw [wI_at, if_neg (by omega), cI_at, if_neg (by omega), wI_at, if_neg (by omega), wI_self]
      · rw [wI_ne (by decide), cI_at, if_pos ⟨rfl, rfl, by omega, by omega⟩, wI_ne (by decide), wI_ne (by decide), show 0 + (u - 0) = u by omega]
        exact h50 u (by omega)
  rw [e_Street_found, b_Street_found_0, hv.1]
  refine ⟨fun z => ?_, fun z => ?_⟩
  · rw [n32_eq (by omega) (by omega)] at z
    exact hit (Or.inl z)
  · rw [n32_eq (by omega) (by omega)] at z
    rw [b_Street_found_7, hv.2.1]
    refine ⟨fun y => ?_, fun y => ?_⟩
    · rw [n32_lt (by omega) (by omega)] at y
      exact hit (Or.inr y)
    · rw [n32_lt (by omega) (by omega)] at y
      rw [b_Street_found_40, hv.1, n32_add]
      have eb : bStep co x r = (x.1 + 1, x.2.1, x.2.2) := by
        unfold bStep
        rw [if_neg (by omega), if_pos (by omega)]
      refine hq _ ⟨fun s a j q1 q2 q3 q4 => ?_, fun t ht => ?_, fun i hi => ?_, ?_⟩
      · rw [wI_at, if_neg (by omega)]
        exact hB s a j q1 q2 q3 q4
      · rw [wI_ne (by decide)]
        exact hW t ht
      · rw [wI_ne (by decide)]
        exact h50 i hi
      · rw [eb]
        refine ⟨by rw [wI_self], ?_, fun _ u hu => ?_⟩
        · rw [wI_at, if_neg (by omega)]
          exact hv.2.1
        · rw [wI_ne (by decide)]
          exact hv.2.2 (by omega) u hu
/-- what the seats and the price are -/
def PutK (gi0 : GI) (nt ne price n : Nat) (tw : Nat → Nat → Nat) (pl : FF) : Prop := n ≤ 6 ∧ nt ≤ 6 ∧ ne ≤ 9 ∧ price ≤ 999 ∧ (∀ a b, tw a b ≤ 1) ∧ gi0 10 0 4 = n32 n ∧ gi0 10 0 5 = n32 ne ∧ gi0 10 0 6 = n32 price ∧ (∀ a b, a < nt → b < nt → gi0 48 a b = n32 (tw a b)) ∧ (∀ i, i < n → gi0 49 0 i = n32 (pl i) ∧ pl i < 10) ∧ (∀ i j, i < j → j < n → pl i < pl j)
theorem c_putFrom {nt ne price n : Nat} {tw : Nat → Nat → Nat} {pl : FF} {gi0 : GI} {g : AG} (hG : GOK g) (hK : PutK gi0 nt ne price n tw pl) : ∀ (k d : Nat) (r : List Nat) (S : Nat → Bool) (x : BS) (gi : GI) (Q : Option AV → AH → Prop), r.length + k = n → (∀ i, i < r.length → gt r i < nt) → (∀ t, t < 6 → S t = true → t < nt) → x.1 + 6 ^ k ≤ 100000 → x.2.1 ≤ 36000 → PutS gi0 gi S r n x →
    (∀ gi', PutS gi0 gi' S r n (((prm k S).map (fun r' => r ++ r')).foldl (bStep (coF tw ne pl price n)) x) → Q none (gi', g)) →
    ax_call (d + k + 2) m_Street_putFrom [.inr (.inr (some (10, 0))), .inl (n32 r.length), .inl (n32 (price * pcF tw ne pl (gt r) r.length))] (gi, g) Q := by
  obtain ⟨hn, hnt, hne, hpr, htw, k4, k5, k6, k48, k49, kinc⟩ := hK
  intro k
  induction k with
  | zero =>
    intro d r S x gi Q hr hrn hS hx hx2 hp hq
    have hr : r.length = n := hr
    have hc := coF_le (ne := ne) (pl := pl) (n := n) (r := r) htw hpr hn
    have e4 : gi 10 0 4 = n32 n := (hp.1 10 0 4 (by decide) (by decide) (by decide) (Or.inr (by decide))).trans k4
    have hq' : ∀ gi', PutS gi0 gi' S r n (bStep (coF tw ne pl price n) x r) → Q none (gi', g) := fun gi' h => hq gi' (by
      show PutS gi0 gi' S r n (bStep (coF tw ne pl price n) x (r ++ []))
      rw [List.append_nil]
      exact h)
    have fin : ¬ (0 < x.1 ∧ x.2.1 < coF tw ne pl price n r) → Runs (d + 1) (m_Street_putFrom, 16, [some (.inr (.inr (some (10, 0)))), some (.inl (n32 r.length)), some (.inl (n32 (price * pcF tw ne pl (gt r) r.length))), none], []) (gi, g) Q := by
      intro hz
      rw [b_Street_putFrom_16, e4]
      refine ⟨fun z => absurd z (by rw [n32_lt (by omega) (by omega)]; omega), fun _ => ?_⟩
      rw [b_Street_putFrom_24, show price * pcF tw ne pl (gt r) r.length = coF tw ne pl price n r by unfold coF; rw [hr]]
      refine c_sfound (d := d) hG hp hr hn (by omega) hc hx2 hz (fun gi' h => ?_)
      rw [ax_psh_none, b_Street_putFrom_29]
      exact hq' gi' h
    have eo : price * pcF tw ne pl (gt r) r.length = coF tw ne pl price n r := by unfold coF; rw [hr]
    have hb1 : x.1 < 2147483648 := by omega
    rw [e_Street_putFrom, b_Street_putFrom_0, hp.2.2.2.1]
    refine ⟨fun z => ?_, fun z => ?_⟩
    · rw [n32_lt (by omega) hb1] at z
      rw [b_Street_putFrom_7, hp.2.2.2.2.1]
      refine ⟨fun y => ?_, fun y => ?_⟩
      · rw [n32_lt (by omega) (by omega), eo] at y
        rw [b_Street_putFrom_15]
        refine hq' gi ?_
        rw [show bStep (coF tw ne pl price n) x r = x by unfold bStep; rw [if_neg (by omega), if_neg (by omega)]]
        exact hp
      · rw [n32_lt (by omega) (by omega), eo] at y
        exact fin (fun q => y q.2)
    · rw [n32_lt (by omega) hb1] at z
      exact fin (fun q => z q.1)
  | succ k ih =>
    intro d r S x gi Q hr hrn hS hx hx2 hp hq
    have hpw : 6 ^ (k + 1) = 6 * 6 ^ k := by rw [Nat.pow_succ, Nat.mul_comm]
    have hb1 : x.1 < 2147483648 := by omega
    have hcr : ∀ r : List Nat, coF tw ne pl price n r ≤ 36000 := fun r => coF_le htw hpr hn
    have ho : price * pcF tw ne pl (gt r) r.length ≤ 36000 := coF_le (r := r) htw hpr (by omega)
    have lp := loop_up (n := 6) (P := fun t => ∀ gi1 : GI, PutS gi0 gi1 S r n (((catN (fun t => if S t = true then (prm k (remS S t)).map (fun r => t :: r) else []) t).map (fun r' => r ++ r')).foldl (bStep (coF tw ne pl price n)) x) → Runs (d + k + 2) (m_Street_putFrom, 32, [some (.inr (.inr (some (10, 0)))), some (.inl (n32 r.length)), some (.inl (n32 (price * pcF tw ne pl (gt r) r.length))), some (.inl (n32 t))], []) (gi1, g) Q) (by
      intro t ht iht gi1 h1
      have hcl : ((catN (fun t => if S t = true then (prm k (remS S t)).map (fun r => t :: r) else []) t).map (fun r' => r ++ r')).length ≤ t * 6 ^ k := by
        rw [List.length_map, catN_len]
        refine sumN_le (fun i _ => ?_)
        split
        · rw [List.length_map]
          exact prm_len
        · exact Nat.zero_le _
      have hmul : t * 6 ^ k + 6 ^ k ≤ 6 * 6 ^ k := by
        rw [← Nat.succ_mul]
        exact Nat.mul_le_mul_right _ ht
      have hx1 := bs1_le (co := coF tw ne pl price n) (l := (catN (fun t => if S t = true then (prm k (remS S t)).map (fun r => t :: r) else []) t).map (fun r' => r ++ r')) (x := x)
      have hx12 := bs2_le (co := coF tw ne pl price n) hcr (l := (catN (fun t => if S t = true then (prm k (remS S t)).map (fun r => t :: r) else []) t).map (fun r' => r ++ r')) hx2
      have hst : ((catN (fun t => if S t = true then (prm k (remS S t)).map (fun r => t :: r) else []) (t + 1)).map (fun r' => r ++ r')).foldl (bStep (coF tw ne pl price n)) x = ((if S t = true then (prm k (remS S t)).map (fun r => t :: r) else []).map (fun r' => r ++ r')).foldl (bStep (coF tw ne pl price n)) (((catN (fun t => if S t = true then (prm k (remS S t)).map (fun r => t :: r) else []) t).map (fun r' => r ++ r')).foldl (bStep (coF tw ne pl price n)) x) := by
        show ((_ ++ _ : List (List Nat)).map _).foldl _ _ = _
        rw [List.map_append, List.foldl_append]
      rw [hst] at iht
      generalize ((catN (fun t => if S t = true then (prm k (remS S t)).map (fun r => t :: r) else []) t).map (fun r' => r ++ r')).foldl (bStep (coF tw ne pl price n)) x = x1 at *
      obtain ⟨hB, hW, h50, hv⟩ := h1
      rw [b_Street_putFrom_32]
      refine ⟨fun _ => ?_, fun z => absurd (by rw [n32_lt (by omega) (by omega)]; exact ht) z⟩
      rw [b_Street_putFrom_38, n32_clamp (by omega), hW t ht]
      refine ⟨G_10_11 hG 0, n32_in (by omega) (by omega), ?_⟩
      cases hs : S t with
      | false =>
        refine ⟨fun _ => ?_, fun z => absurd rfl z⟩
        rw [b_Street_putFrom_87, n32_add]
        refine iht gi1 ?_
        rw [hs, if_neg (by decide)]
        exact ⟨hB, hW, h50, hv⟩
      | true =>
        refine ⟨fun z => absurd z (by decide), fun _ => ?_⟩
        have htn := hS t ht hs
        rw [hs, if_pos rfl, List.map_map] at iht
        have emap : (prm k (remS S t)).map ((fun r' => r ++ r') ∘ (fun r => t :: r)) = (prm k (remS S t)).map (fun r' => (r ++ [t]) ++ r') := by
          refine List.map_congr_left (fun r' _ => ?_)
          show r ++ (t :: r') = r ++ [t] ++ r'
          rw [List.append_assoc]
          rfl
        rw [emap] at iht
        have y : ∀ s a j, s ≠ 50 → s ≠ 52 → ax_wI (ax_wI gi1 52 0 t (n32 0)) 50 0 r.length (n32 t) s a j = gi1 s a j := fun s a j q1 q2 => by rw [wI_ne q1, wI_ne q2]
        have y50 : ∀ i, i ≤ r.length → ax_wI (ax_wI gi1 52 0 t (n32 0)) 50 0 r.length (n32 t) 50 0 i = n32 (gt (r ++ [t]) i) := fun i hi => by
          unfold gt
          rw [wI_at, getD_app]
          by_cases q : i = r.length
          · rw [if_pos ⟨rfl, rfl, q⟩, if_neg (by omega), if_pos q]
          · rw [if_neg (by omega), wI_ne (by decide), if_pos (by omega)]
            exact h50 i (by omega)
        have y52 : ∀ u, u < 6 → ax_wI (ax_wI gi1 52 0 t (n32 0)) 50 0 r.length (n32 t) 52 0 u = b32 (remS S t u) := fun u hu => by
          rw [wI_ne (by decide), wI_at]
          unfold remS
          by_cases q : u = t
          · rw [if_pos ⟨rfl, rfl, q⟩, q, Nat.beq_refl, Bool.not_true, Bool.and_false]
            rfl
          · rw [if_neg (by omega), hW u hu]
            cases hb : Nat.beq u t with
            | false => rw [Bool.not_false, Bool.and_true]
            | true => exact absurd (Nat.eq_of_beq_eq_true hb) q
        rw [b_Street_putFrom_47, n32_clamp (by omega), n32_clamp (by omega)]
        refine ⟨G_10_11 hG 0, ⟨Or.inl rfl, n32_in (by omega) (by omega)⟩, G_10_9 hG 0, n32_in (by omega) (by omega), ?_⟩
        generalize ax_wI (ax_wI gi1 52 0 t (n32 0)) 50 0 r.length (n32 t) = gi2 at *
        have hB2 : PutB gi0 gi2 := fun s a j q1 q2 q3 q4 => (y s a j q1 q3).trans (hB s a j q1 q2 q3 q4)
        have hra : ∀ i, i ≤ r.length → gt (r ++ [t]) i < nt := fun i hi => by
          unfold gt
          rw [getD_app]
          by_cases q : i < r.length
          · rw [if_pos q]
            exact hrn i q
          · rw [if_neg q, if_pos (by omega)]
            exact htn
        have e6 : gi2 10 0 6 = n32 price := (hB2 10 0 6 (by decide) (by decide) (by decide) (Or.inr (by decide))).trans k6
        have e5 : gi2 10 0 5 = n32 ne := (hB2 10 0 5 (by decide) (by decide) (by decide) (Or.inr (by decide))).trans k5
        rw [show d + k + 2 = (d + k + 1) + 1 by omega, c_pairsBefore (d := d + k + 1) (nt := nt) (ne := ne) (tw := tw) (pl := pl) (r := gt (r ++ [t])) hG hnt (by omega) hne e5 (fun i hi => by rw [hB2 49 0 i (by decide) (by decide) (by decide) (Or.inl (by decide))]; exact k49 i (by omega)) (fun i hi => kinc i _ hi (by omega)) (fun i hi => ⟨y50 i hi, hra i hi⟩) (fun a b ha hb => (hB2 48 a b (by decide) (by decide) (by decide) (Or.inl (by decide))).trans (k48 a b ha hb))]
        simp only [ax_psh_some]
        rw [b_Street_putFrom_75, e6, n32_mul, n32_add, n32_add]
        have el : (r ++ [t]).length = r.length + 1 := by rw [List.length_append]; rfl
        have eo : price * pcF tw ne pl (gt r) r.length + price * pbF tw ne pl (gt (r ++ [t])) r.length = price * pcF tw ne pl (gt (r ++ [t])) (r ++ [t]).length := by
          rw [el, ← Nat.mul_add]
          congr 1
          show _ = sumN _ r.length + _
          congr 1
          exact pcF_congr (fun i hi => (gt_app hi).symm)
        rw [eo, ← el]
        refine ih d (r ++ [t]) (remS S t) x1 gi2 _ (by omega) (fun i hi => hra i (by omega)) (fun u hu hq => hS u hu (by unfold remS at hq; rw [Bool.and_eq_true] at hq; exact hq.1)) (by omega) hx12 ⟨hB2, y52, fun i hi => y50 i (by omega), (y 10 0 3 (by decide) (by decide)).trans hv.1, (y 10 0 2 (by decide) (by decide)).trans hv.2.1, fun q u hu => (y 51 0 u (by decide) (by decide)).trans (hv.2.2 q u hu)⟩ (fun gi3 h3 => ?_)
        obtain ⟨hB3, hW3, h503, hv3⟩ := h3
        rw [ax_psh_none, b_Street_putFrom_80, n32_clamp (by omega)]
        refine ⟨G_10_11 hG 0, ⟨Or.inr rfl, n32_in (by omega) (by omega)⟩, ?_⟩
        rw [b_Street_putFrom_87, n32_add]
        refine iht _ ⟨fun s a j q1 q2 q3 q4 => ?_, fun u hu => ?_, fun i hi => ?_, ?_, ?_, fun q u hu => ?_⟩
        · rw [wI_ne q3]
          exact hB3 s a j q1 q2 q3 q4
        · rw [wI_at]
          by_cases q : u = t
          · rw [if_pos ⟨rfl, rfl, q⟩, q, hs]
            rfl
          · rw [if_neg (by omega), hW3 u hu]
            unfold remS
            cases hb : Nat.beq u t with
            | false => rw [Bool.not_false, Bool.and_true]
            | true => exact absurd (Nat.eq_of_beq_eq_true hb) q
        · rw [wI_ne (by decide), h503 i (by omega), gt_app hi]
        · rw [wI_ne (by decide)]
          exact hv3.1
        · rw [wI_ne (by decide)]
          exact hv3.2.1
        · rw [wI_ne (by decide)]
          exact hv3.2.2 q u hu) (by
      intro gi1 h1
      rw [b_Street_putFrom_32]
      refine ⟨fun z => absurd z (by rw [n32_lt (by omega) (by omega)]; omega), fun _ => ?_⟩
      rw [b_Street_putFrom_93]
      exact hq gi1 h1)
    have e4 : gi 10 0 4 = n32 n := (hp.1 10 0 4 (by decide) (by decide) (by decide) (Or.inr (by decide))).trans k4
    have go : Runs (d + k + 2) (m_Street_putFrom, 16, [some (.inr (.inr (some (10, 0)))), some (.inl (n32 r.length)), some (.inl (n32 (price * pcF tw ne pl (gt r) r.length))), none], []) (gi, g) Q := by
      rw [b_Street_putFrom_16, e4]
      refine ⟨fun _ => ?_, fun z => absurd (by rw [n32_lt (by omega) (by omega)]; omega) z⟩
      rw [b_Street_putFrom_30]
      exact lp 0 (Nat.zero_le _) gi hp
    rw [show d + (k + 1) + 2 = (d + k + 2) + 1 by omega, e_Street_putFrom, b_Street_putFrom_0, hp.2.2.2.1]
    refine ⟨fun z => ?_, fun _ => go⟩
    rw [n32_lt (by omega) hb1] at z
    rw [b_Street_putFrom_7, hp.2.2.2.2.1]
    refine ⟨fun y => ?_, fun _ => go⟩
    rw [n32_lt (by omega) (by omega)] at y
    rw [b_Street_putFrom_15]
    refine hq gi ?_
    rw [bStep_big z (fun r1 hr1 => ?_)]
    · exact hp
    · obtain ⟨r', -, rfl⟩ := List.mem_map.mp hr1
      refine Nat.lt_of_lt_of_le y (Nat.mul_le_mul_left _ ?_)
      rw [← pcF_congr (r := gt (r ++ r')) (n := r.length) (fun i hi => gt_app hi)]
      exact pcF_mono (by omega)
