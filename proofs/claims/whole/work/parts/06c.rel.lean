/-! how the abstract heap lies in the machine's -/
def ax_rv (ρ : Nat → Nat → Nat) (r : AR) : Value := match r with
  | none => .null
  | some (s, a) => .ref (ρ s a)
def ax_cv (ρ : Nat → Nat → Nat) (v : AV) : Value := match v with
  | .inl x => .int x
  | .inr (.inl x) => .long x
  | .inr (.inr r) => ax_rv ρ r
/-- cells that the law makes -/
def ax_own (s : Nat) : Prop := (ax_sk s).1 < 2
def ax_fval (ρ : Nat → Nat → Nat) (h : AH) (s a c k : Nat) : Value := cond (ax_fr c k) (ax_rv ρ (h.2.1 s a k)) (.int (h.1 s a k))
def ax_eval (ρ : Nat → Nat → Nat) (h : AH) (s a t j : Nat) : Value := cond (Nat.beq t 8) (.long (ax_lE (h.1 s a j) (h.1 s a (ax_len h s a + j)))) (cond (Nat.ble 3 t) (ax_rv ρ (h.2.1 s a j)) (.int (h.1 s a j)))
/-- how many places a cell has -/
def ax_sz (h : AH) (s a : Nat) : Nat := cond (Nat.beq (ax_sk s).1 0) (ax_N (ax_sk s).2) (ax_len h s a)
def ax_relc (D : va_G) (dA : Nat → ClassId) (ρ : Nat → Nat → Nat) (h : AH) (s a : Nat) (H : Heap) : Prop :=
  ((ax_sk s).1 = 0 → t_OB (ρ s a) (D.1 (ax_sk s).2) (ax_N (ax_sk s).2) (D.2 (ax_sk s).2) H (ax_fval ρ h s a (ax_sk s).2)) ∧
  ((ax_sk s).1 = 1 → H[ρ s a]? = some (arrV (dA (ax_sk s).2) (ax_len h s a) (ax_eval ρ h s a (ax_sk s).2)))
/-- the references of a cell are alive -/
def ax_refs (h : AH) (s a : Nat) : Prop := ∀ j, j < ax_sz h s a → ∀ t b, h.2.1 s a j = some (t, b) → b < h.2.2.1 t
def ax_wd (D : va_G) (dA : Nat → ClassId) (Hb : Heap) (h0 : AH) (ro ρ : Nat → Nat → Nat) (h : AH) (H : Heap) : Prop :=
  (∀ s a, ax_own s → a < h.2.2.1 s → ax_relc D dA ρ h s a H ∧ Hb.size ≤ ρ s a) ∧
  (∀ s a t b, ax_own s → ax_own t → a < h.2.2.1 s → b < h.2.2.1 t → ρ s a = ρ t b → s = t ∧ a = b) ∧
  (∀ s a, a < h.2.2.1 s → ax_refs h s a) ∧
  (Hb.size ≤ H.size ∧ ∀ q, q < Hb.size → H[q]? = Hb[q]?) ∧
  (∀ s, ¬ ax_own s → h.1 s = h0.1 s ∧ h.2.1 s = h0.2.1 s ∧ h.2.2.1 s = h0.2.2.1 s ∧ h.2.2.2.1 s = h0.2.2.2.1 s) ∧
  (∀ s a, ¬ ax_own s → ρ s a = ro s a)
theorem ax_arrV_congr {cI : ClassId} {N : Nat} {f g : Nat → Value} (h : ∀ j, j < N → f j = g j) : arrV cI N f = arrV cI N g := by
  unfold arrV
  congr 1
  apply Array.ext
  · simp
  · intro i h1 h2
    simp only [Array.getElem_ofFn]
    exact h i (by simpa using h1)
theorem ax_t_OB_congr {o : Nat} {cC : ClassId} {N : Nat} {iS : Nat → Nat} {H H' : Heap} {V V' : Nat → Value} (h : t_OB o cC N iS H V) (hH : H'[o]? = H[o]?) (hv : ∀ k, k < N → V k = V' k) : t_OB o cC N iS H' V' := (h.kept hH).to hv
theorem ax_rv_congr {ρ ρ' : Nat → Nat → Nat} {r : AR} (h : ∀ s a, r = some (s, a) → ρ' s a = ρ s a) : ax_rv ρ' r = ax_rv ρ r := by
  cases r with
  | none => rfl
  | some q =>
    obtain ⟨s, a⟩ := q
    simp only [ax_rv]
    rw [h s a rfl]
theorem ax_sz0 {h : AH} {s a : Nat} (h0 : (ax_sk s).1 = 0) : ax_sz h s a = ax_N (ax_sk s).2 := by simp [ax_sz, h0]
theorem ax_sz1 {h : AH} {s a : Nat} (h0 : (ax_sk s).1 = 1) : ax_sz h s a = ax_len h s a := by unfold ax_sz; rw [h0]; rfl
theorem ax_len_congr {h h' : AH} {s a : Nat} (hg : h'.2.2.2.1 s a = h.2.2.2.1 s a) : ax_len h' s a = ax_len h s a := by
  unfold ax_len
  cases ax_sl s with
  | some n => rfl
  | none => exact hg
theorem ax_sz_congr {h h' : AH} {s a : Nat} (hg : h'.2.2.2.1 s a = h.2.2.2.1 s a) : ax_sz h' s a = ax_sz h s a := by
  unfold ax_sz
  rw [ax_len_congr hg]
theorem ax_relc.congr {D : va_G} {dA : Nat → ClassId} {ρ ρ' : Nat → Nat → Nat} {h h' : AH} {s a : Nat} {H H' : Heap} (hr : ax_relc D dA ρ h s a H) (hρ : ρ' s a = ρ s a) (hI : ∀ j, h'.1 s a j = h.1 s a j) (hR : ∀ j, h'.2.1 s a j = h.2.1 s a j) (hg : h'.2.2.2.1 s a = h.2.2.2.1 s a)
    (hq : ∀ j, j < ax_sz h s a → ∀ t b, h.2.1 s a j = some (t, b) → ρ' t b = ρ t b) (hH : H'[ρ s a]? = H[ρ s a]?) : ax_relc D dA ρ' h' s a H' := by
  refine ⟨fun h0 => ?_, fun h1 => ?_⟩
  · rw [hρ]
    refine ax_t_OB_congr (hr.1 h0) hH (fun k hk => ?_)
    unfold ax_fval
    rw [hI, hR]
    cases ax_fr (ax_sk s).2 k with
    | false => rfl
    | true => exact (ax_rv_congr (hq k (by rw [ax_sz0 h0]; exact hk))).symm
  · rw [hρ, hH, hr.2 h1, ax_len_congr hg]
    congr 1
    refine ax_arrV_congr (fun j hj => ?_)
    unfold ax_eval
    rw [hI, hI, hR, ax_len_congr hg]
    cases Nat.beq (ax_sk s).2 8 with
    | true => rfl
    | false => cases Nat.ble 3 (ax_sk s).2 with
      | false => rfl
      | true => exact (ax_rv_congr (hq j (by rw [ax_sz1 h1]; exact hj))).symm
section WD
variable {D : va_G} {dA : Nat → ClassId} {Hb : Heap} {h0 : AH} {ro ρ : Nat → Nat → Nat} {h : AH} {H : Heap}
/-- one cell is written -/
theorem ax_wd.set (hw : ax_wd D dA Hb h0 ro ρ h H) {s a : Nat} (hs : ax_own s) (ha : a < h.2.2.1 s) {h' : AH} {H' : Heap} (hg : h'.2.2 = h.2.2) (hI : ∀ t b j, ¬ (t = s ∧ b = a) → h'.1 t b j = h.1 t b j) (hR : ∀ t b j, ¬ (t = s ∧ b = a) → h'.2.1 t b j = h.2.1 t b j)
    (hz : H'.size = H.size) (oq : ∀ q, q ≠ ρ s a → H'[q]? = H[q]?) (hc : ax_relc D dA ρ h' s a H') (hl : ax_refs h' s a) : ax_wd D dA Hb h0 ro ρ h' H' := by
  obtain ⟨w1, w2, w3, w4, w5, w6⟩ := hw
  have hgn : h'.2.2.1 = h.2.2.1 := by rw [hg]
  have hgl : h'.2.2.2.1 = h.2.2.2.1 := by rw [hg]
  refine ⟨fun t b ht hb => ?_, fun t b t' b' ht ht' hb hb' => ?_, fun t b hb => ?_, ⟨by rw [hz]; exact w4.1, fun q hq => ?_⟩, fun t ht => ?_, w6⟩
  · rw [hgn] at hb
    by_cases e : t = s ∧ b = a
    · obtain ⟨rfl, rfl⟩ := e
      exact ⟨hc, (w1 t b ht hb).2⟩
    · refine ⟨(w1 t b ht hb).1.congr rfl (fun j => hI t b j e) (fun j => hR t b j e) (by rw [hgl]) (fun _ _ _ _ _ => rfl) (oq _ (fun q => e (w2 t b s a ht hs hb ha q))), (w1 t b ht hb).2⟩
  · rw [hgn] at hb hb'
    exact w2 t b t' b' ht ht' hb hb'
  · rw [hgn] at hb
    by_cases e : t = s ∧ b = a
    · obtain ⟨rfl, rfl⟩ := e
      exact hl
    · intro j hj t' b' hr
      rw [ax_sz_congr (h := h) (h' := h') (s := t) (a := b) (by rw [hgl])] at hj
      rw [hR t b j e] at hr
      rw [hgn]
      exact w3 t b hb j hj t' b' hr
  · rw [oq q (fun e => ?_)]
    · exact w4.2 q hq
    · have := (w1 s a hs ha).2
      omega
  · have e : ∀ b, ¬ (t = s ∧ b = a) := fun b q => ht (q.1 ▸ hs)
    obtain ⟨q1, q2, q3, q4⟩ := w5 t ht
    refine ⟨?_, ?_, by rw [hgn]; exact q3, by rw [hgl]; exact q4⟩
    · rw [← q1]
      funext b j
      exact hI t b j (e b)
    · rw [← q2]
      funext b j
      exact hR t b j (e b)
/-- cells are made -/
theorem ax_wd.grow (hw : ax_wd D dA Hb h0 ro ρ h H) {ρ' : Nat → Nat → Nat} {h' : AH} {H' : Heap} (hz : H.size ≤ H'.size) (old : ∀ q, q < H.size → H'[q]? = H[q]?) (hn : ∀ s, h.2.2.1 s ≤ h'.2.2.1 s)
    (hρ : ∀ s a, a < h.2.2.1 s → ρ' s a = ρ s a) (hρ0 : ∀ s a, ¬ ax_own s → ρ' s a = ρ s a) (hI : ∀ s a j, a < h.2.2.1 s → h'.1 s a j = h.1 s a j) (hR : ∀ s a j, a < h.2.2.1 s → h'.2.1 s a j = h.2.1 s a j) (hg : ∀ s a, a < h.2.2.1 s → h'.2.2.2.1 s a = h.2.2.2.1 s a)
    (hnew : ∀ s a, ax_own s → h.2.2.1 s ≤ a → a < h'.2.2.1 s → ax_relc D dA ρ' h' s a H' ∧ H.size ≤ ρ' s a) (hrefs : ∀ s a, h.2.2.1 s ≤ a → a < h'.2.2.1 s → ax_refs h' s a)
    (hinj : ∀ s a t b, ax_own s → ax_own t → h.2.2.1 s ≤ a → a < h'.2.2.1 s → h.2.2.1 t ≤ b → b < h'.2.2.1 t → ρ' s a = ρ' t b → s = t ∧ a = b)
    (hro : ∀ s, ¬ ax_own s → h'.1 s = h.1 s ∧ h'.2.1 s = h.2.1 s ∧ h'.2.2.1 s = h.2.2.1 s ∧ h'.2.2.2.1 s = h.2.2.2.1 s) : ax_wd D dA Hb h0 ro ρ' h' H' := by
  obtain ⟨w1, w2, w3, w4, w5, w6⟩ := hw
  have lt : ∀ s a, ax_own s → a < h.2.2.1 s → ρ s a < H.size := by
    intro s a hs ha
    obtain ⟨⟨r0, r1⟩, -⟩ := w1 s a hs ha
    by_cases e : (ax_sk s).1 = 0
    · obtain ⟨cell, q, -⟩ := r0 e
      exact (Array.getElem?_eq_some_iff.mp q).1
    · have e1 : (ax_sk s).1 = 1 := by have : (ax_sk s).1 < 2 := hs; omega
      exact (Array.getElem?_eq_some_iff.mp (r1 e1)).1
  refine ⟨fun s a hs ha => ?_, fun s a t b hs ht ha hb he => ?_, fun s a ha => ?_, ⟨Nat.le_trans w4.1 hz, fun q hq => ?_⟩, fun s hs => ?_, fun s a hs => ?_⟩
  · by_cases e : a < h.2.2.1 s
    · refine ⟨(w1 s a hs e).1.congr (hρ s a e) (fun j => hI s a j e) (fun j => hR s a j e) (hg s a e) (fun j hj t b hr => hρ t b (w3 s a e j hj t b hr)) (old _ (lt s a hs e)), by rw [hρ s a e]; exact (w1 s a hs e).2⟩
    · exact ⟨(hnew s a hs (by omega) ha).1, Nat.le_trans w4.1 (hnew s a hs (by omega) ha).2⟩
  · by_cases e1 : a < h.2.2.1 s <;> by_cases e2 : b < h.2.2.1 t
    · rw [hρ s a e1, hρ t b e2] at he
      exact w2 s a t b hs ht e1 e2 he
    · have h1 := lt s a hs e1
      have h2 := (hnew t b ht (by omega) hb).2
      rw [hρ s a e1] at he
      omega
    · have h1 := lt t b ht e2
      have h2 := (hnew s a hs (by omega) ha).2
      rw [hρ t b e2] at he
      omega
    · exact hinj s a t b hs ht (by omega) ha (by omega) hb he
  · by_cases e : a < h.2.2.1 s
    · intro j hj t b hr
      rw [ax_sz_congr (hg s a e)] at hj
      rw [hR s a j e] at hr
      exact Nat.lt_of_lt_of_le (w3 s a e j hj t b hr) (hn t)
    · exact hrefs s a (by omega) ha
  · rw [old q (Nat.lt_of_lt_of_le hq w4.1)]
    exact w4.2 q hq
  · obtain ⟨q1, q2, q3, q4⟩ := w5 s hs
    obtain ⟨p1, p2, p3, p4⟩ := hro s hs
    exact ⟨p1.trans q1, p2.trans q2, p3.trans q3, p4.trans q4⟩
  · rw [hρ0 s a hs]
    exact w6 s a hs
theorem ax_wd.lt (hw : ax_wd D dA Hb h0 ro ρ h H) {s a : Nat} (hs : ax_own s) (ha : a < h.2.2.1 s) : ρ s a < H.size := by
  obtain ⟨⟨r0, r1⟩, -⟩ := hw.1 s a hs ha
  by_cases e : (ax_sk s).1 = 0
  · obtain ⟨cell, q, -⟩ := r0 e
    exact (Array.getElem?_eq_some_iff.mp q).1
  · have e1 : (ax_sk s).1 = 1 := by have : (ax_sk s).1 < 2 := hs; omega
    exact (Array.getElem?_eq_some_iff.mp (r1 e1)).1
end WD
/-! locals -/
def ax_lrel (ρ : Nat → Nat → Nat) (L : AL) (ls : Array Slot) (nL : Nat) : Prop := ls.size = nL ∧ lv_wf ls ∧ ∀ i v, ax_lget L i = some v → ls[i]? = some (.val (ax_cv ρ v))
def ax_alive (h : AH) (v : AV) : Prop := ∀ s a, v = .inr (.inr (some (s, a))) → a < h.2.2.1 s
def ax_lpairs (ρ : Nat → Nat → Nat) (L : AL) : List (Nat × Value) := (List.range L.length).filterMap (fun i => (ax_lget L i).map (fun v => (i, ax_cv ρ v)))
theorem ax_lget_lt : ∀ (L : AL) (i : Nat) (v : AV), ax_lget L i = some v → i < L.length
  | [], _, _, h => by cases h
  | _ :: _, 0, _, _ => by simp
  | _ :: L, i + 1, v, h => by
    have := ax_lget_lt L i v h
    simp only [List.length_cons]
    omega
theorem ax_lrel.has {ρ : Nat → Nat → Nat} {L : AL} {ls : Array Slot} {nL : Nat} (h : ax_lrel ρ L ls nL) : lv_has ls nL (ax_lpairs ρ L) := by
  refine ⟨h.1, h.2.1, fun q hq => ?_⟩
  obtain ⟨i, -, hi⟩ := List.mem_filterMap.mp hq
  cases hv : ax_lget L i with
  | none => rw [hv] at hi; cases hi
  | some v =>
    rw [hv] at hi
    cases hi
    exact h.2.2 i v hv
theorem ax_lpairs_mem {ρ : Nat → Nat → Nat} {L : AL} {i : Nat} {v : AV} (h : ax_lget L i = some v) : (i, ax_cv ρ v) ∈ ax_lpairs ρ L :=
  List.mem_filterMap.mpr ⟨i, List.mem_range.mpr (ax_lget_lt L i v h), by rw [h]; rfl⟩
theorem ax_kl_some {o : Option AV} {v : AV} (h : ax_kl o = some v) : o = some v ∧ ax_cat v = 1 := by
  match o, h with
  | some (.inl x), h => cases h; exact ⟨rfl, rfl⟩
  | some (.inr (.inr r)), h => cases h; exact ⟨rfl, rfl⟩
theorem ax_ls1_get : ∀ (L : AL) (i : Nat) (w : AV) (j : Nat) (v : AV), ax_lget (ax_ls1 L i w) j = some v → (j = i ∧ v = w) ∨ (j ≠ i ∧ ax_lget L j = some v ∧ (j + 1 = i → ax_cat v = 1))
  | [], _, _, _, _, h => by cases h
  | _ :: L, 0, w, 0, v, h => by cases h; exact Or.inl ⟨rfl, rfl⟩
  | _ :: L, 0, w, j + 1, v, h => Or.inr ⟨by omega, h, by omega⟩
  | o :: L, 1, w, 0, v, h => by
    obtain ⟨h1, h2⟩ := ax_kl_some h
    exact Or.inr ⟨by omega, h1, fun _ => h2⟩
  | o :: L, 1, w, j + 1, v, h => by
    rcases ax_ls1_get L 0 w j v h with ⟨h1, h2⟩ | ⟨h1, h2, h3⟩
    · exact Or.inl ⟨by omega, h2⟩
    · exact Or.inr ⟨by omega, h2, by omega⟩
  | o :: L, i + 2, w, 0, v, h => Or.inr ⟨by omega, h, by omega⟩
  | o :: L, i + 2, w, j + 1, v, h => by
    rcases ax_ls1_get L (i + 1) w j v h with ⟨h1, h2⟩ | ⟨h1, h2, h3⟩
    · exact Or.inl ⟨by omega, h2⟩
    · exact Or.inr ⟨by omega, h2, fun e => h3 (by omega)⟩
theorem ax_ls2_get : ∀ (L : AL) (i : Nat) (w : AV) (j : Nat) (v : AV), ax_lget (ax_ls2 L i w) j = some v → (j = i ∧ v = w) ∨ (j ≠ i ∧ j ≠ i + 1 ∧ ax_lget L j = some v ∧ (j + 1 = i → ax_cat v = 1))
  | [], _, _, _, _, h => by simp [ax_ls2, ax_lget] at h
  | [_], 0, _, _, _, h => by simp [ax_ls2, ax_lget] at h
  | _ :: _ :: L, 0, w, 0, v, h => by cases h; exact Or.inl ⟨rfl, rfl⟩
  | _ :: _ :: L, 0, w, 1, v, h => by cases h
  | _ :: _ :: L, 0, w, j + 2, v, h => Or.inr ⟨by omega, by omega, h, by omega⟩
  | o :: L, 1, w, 0, v, h => by
    have h' : ax_kl o = some v := by simpa [ax_ls2, ax_lget] using h
    obtain ⟨h1, h2⟩ := ax_kl_some h'
    exact Or.inr ⟨by omega, by omega, h1, fun _ => h2⟩
  | o :: L, 1, w, j + 1, v, h => by
    have h' : ax_lget (ax_ls2 L 0 w) j = some v := by simpa [ax_ls2, ax_lget] using h
    rcases ax_ls2_get L 0 w j v h' with ⟨h1, h2⟩ | ⟨h1, h4, h2, h3⟩
    · exact Or.inl ⟨by omega, h2⟩
    · exact Or.inr ⟨by omega, by omega, h2, by omega⟩
  | o :: L, i + 2, w, 0, v, h => by
    have h' : o = some v := by simpa [ax_ls2, ax_lget] using h
    exact Or.inr ⟨by omega, by omega, h', by omega⟩
  | o :: L, i + 2, w, j + 1, v, h => by
    have h' : ax_lget (ax_ls2 L (i + 1) w) j = some v := by simpa [ax_ls2, ax_lget] using h
    rcases ax_ls2_get L (i + 1) w j v h' with ⟨h1, h2⟩ | ⟨h1, h4, h2, h3⟩
    · exact Or.inl ⟨by omega, h2⟩
    · exact Or.inr ⟨by omega, by omega, h2, fun e => h3 (by omega)⟩
theorem ax_cv_cat {ρ : Nat → Nat → Nat} (v : AV) : (ax_cv ρ v).category = ax_cat v := by
  match v with
  | .inl x => rfl
  | .inr (.inl x) => rfl
  | .inr (.inr none) => rfl
  | .inr (.inr (some (s, a))) => rfl
theorem ax_lrel.st1 {ρ : Nat → Nat → Nat} {L : AL} {ls' : Array Slot} {nL i : Nat} {w : AV} (h' : lv_has ls' nL ((i, ax_cv ρ w) :: (ax_lpairs ρ L).filter (fun q => !(q.1 == i) && !(q.1 + 1 == i && q.2.category == 2)))) : ax_lrel ρ (ax_ls1 L i w) ls' nL := by
  refine ⟨h'.1, h'.2.1, fun j v hj => ?_⟩
  rcases ax_ls1_get L i w j v hj with ⟨rfl, rfl⟩ | ⟨h1, h2, h3⟩
  · exact h'.2.2 _ List.mem_cons_self
  · refine h'.2.2 (j, ax_cv ρ v) (List.mem_cons_of_mem _ (List.mem_filter.mpr ⟨ax_lpairs_mem h2, ?_⟩))
    by_cases e : j + 1 = i
    · have hc : (ax_cv ρ v).category = 1 := by rw [ax_cv_cat]; exact h3 e
      simp [h1, hc]
    · simp [h1, e]
theorem ax_lrel.st2 {ρ : Nat → Nat → Nat} {L : AL} {ls' : Array Slot} {nL i : Nat} {w : AV} (h' : lv_has ls' nL ((i, ax_cv ρ w) :: (ax_lpairs ρ L).filter (fun q => !(q.1 == i) && (!(q.1 == i + 1) && !(q.1 + 1 == i && q.2.category == 2))))) : ax_lrel ρ (ax_ls2 L i w) ls' nL := by
  refine ⟨h'.1, h'.2.1, fun j v hj => ?_⟩
  rcases ax_ls2_get L i w j v hj with ⟨rfl, rfl⟩ | ⟨h1, h4, h2, h3⟩
  · exact h'.2.2 _ List.mem_cons_self
  · refine h'.2.2 (j, ax_cv ρ v) (List.mem_cons_of_mem _ (List.mem_filter.mpr ⟨ax_lpairs_mem h2, ?_⟩))
    by_cases e : j + 1 = i
    · have hc : (ax_cv ρ v).category = 1 := by rw [ax_cv_cat]; exact h3 e
      simp [h1, h4, hc]
    · simp [h1, h4, e]
theorem ax_cv_congr {ρ ρ' : Nat → Nat → Nat} {v : AV} {h : AH} (hv : ax_alive h v) (hρ : ∀ s a, a < h.2.2.1 s → ρ' s a = ρ s a) : ax_cv ρ' v = ax_cv ρ v := by
  match v, hv with
  | .inl x, _ => rfl
  | .inr (.inl x), _ => rfl
  | .inr (.inr r), hv => exact ax_rv_congr (fun s a e => hρ s a (hv s a (by rw [e])))
