/-! an array of arrays of ints, by the model's own step of multianewarray -/
/-- the outer array, i of its rows laid in (they lie behind it, at b + 1, b + 2 ..) -/
def gm_o (c : ClassId) (N b i : Nat) : Cell := arrV c N (fun j => if j < i then .ref (b + 1 + j) else .null)
def gm_i (c : ClassId) (K : Nat) : Cell := arrV c K (fun _ => .int 0)
/-- i rows made -/
def gm_at (T : State) (c d : ClassId) (N K : Nat) : Nat → State
  | 0 => T.pushCell (gm_o c N T.heap.size 0)
  | i + 1 => ((gm_at T c d N K i).pushCell (gm_i d K)).setCell T.heap.size (gm_o c N T.heap.size (i + 1))
theorem gm_o_next (c : ClassId) (N b i : Nat) : (gm_o c N b i).setSlot i (.ref (b + 1 + i)) = gm_o c N b (i + 1) := by
  unfold gm_o
  rw [arrV_store]
  refine ax_arrV_congr (fun j _ => ?_)
  show (if j = i then Value.ref (b + 1 + i) else if j < i then .ref (b + 1 + j) else .null) = _
  by_cases e : j = i
  · rw [if_pos e, if_pos (by omega), e]
  · rw [if_neg e]
    by_cases q : j < i
    · rw [if_pos q, if_pos (by omega)]
    · rw [if_neg q, if_neg (by omega)]
theorem gm_o_full (c : ClassId) (N b : Nat) : gm_o c N b N = arrV c N (fun j => .ref (b + 1 + j)) := ax_arrV_congr (fun _ hj => if_pos hj)
theorem gm_o_size (c : ClassId) (N b i : Nat) : (gm_o c N b i).slots.size = N := arrV_size _ _ _
theorem gm_i_size (c : ClassId) (K : Nat) : (gm_i c K).slots.size = K := arrV_size _ _ _
/-- what lies there then -/
theorem gm_has (T : State) (c d : ClassId) (N K : Nat) (i : Nat) : (gm_at T c d N K i).heap.size = T.heap.size + 1 + i ∧ (gm_at T c d N K i).heap[T.heap.size]? = some (gm_o c N T.heap.size i) ∧ ((gm_at T c d N K i).vm = T.vm ∧ (gm_at T c d N K i).slotsUsed = T.slotsUsed + N + i * K) ∧ ∀ q, q ≠ T.heap.size → q < T.heap.size + 1 + i → (gm_at T c d N K i).heap[q]? = if q < T.heap.size then T.heap[q]? else some (gm_i d K) := by
  induction i with
  | zero =>
    refine ⟨by simp [gm_at], State.heap_pushCell_size _ _, ⟨rfl, by simp [gm_at, gm_o_size]⟩, fun q h1 h2 => ?_⟩
    have h3 : q < T.heap.size := by omega
    rw [if_pos h3]
    exact State.heap_pushCell_of_lt _ _ h3
  | succ i ih =>
    obtain ⟨a1, a2, ⟨a3, a4⟩, a5⟩ := ih
    have lt : T.heap.size < (gm_at T c d N K i).heap.size := by omega
    have mid : ((gm_at T c d N K i).pushCell (gm_i d K)).heap[T.heap.size]? = some (gm_o c N T.heap.size i) := (State.heap_pushCell_of_lt _ _ lt).trans a2
    refine ⟨?_, State.heap_setCell_self mid, ⟨a3, ?_⟩, fun q h1 h2 => ?_⟩
    · simp [gm_at, State.setCell, a1]
      omega
    · simp [gm_at, a4, gm_i_size, Nat.succ_mul]
      omega
    · show (((gm_at T c d N K i).pushCell (gm_i d K)).setCell T.heap.size _).heap[q]? = _
      rw [State.heap_setCell_other (Ne.symm h1)]
      by_cases z : q < (gm_at T c d N K i).heap.size
      · rw [State.heap_pushCell_of_lt _ _ z]
        exact a5 q h1 (by omega)
      · have e : q = (gm_at T c d N K i).heap.size := by omega
        rw [e, State.heap_pushCell_size, if_neg (by omega)]
theorem gm_top (T : State) (f : JFrame) (c d : ClassId) (N K : Nat) : ∀ i, gm_at (T.setTop f) c d N K i = (gm_at T c d N K i).setTop f
  | 0 => rfl
  | i + 1 => by
    show ((gm_at (T.setTop f) c d N K i).pushCell (gm_i d K)).setCell T.heap.size (gm_o c N T.heap.size (i + 1)) = _
    rw [gm_top T f c d N K i]
    rfl
/-- a loop whose i-th round goes from S i to S (i + 1) -/
theorem gm_loop {E : CtlPost} {e : Env} {S : Nat → State} {N : Nat} {f : Nat → PUnit → Sem (ForInStep PUnit)} (hstep : ∀ i, i < N → ∀ (d : Bool) (acts : List Action) (Q' : ForInStep PUnit → Pre), (∀ d' acts', Q' (.yield PUnit.unit) d' acts' (S (i + 1))) → wp (f i PUnit.unit) Q' E e d acts (S i)) : ∀ (r i : Nat), i + r = N → ∀ (d : Bool) (acts : List Action) (Q : PUnit → Pre), (∀ d' acts', Q PUnit.unit d' acts' (S N)) → wp (forIn (List.range' i r 1) PUnit.unit f) Q E e d acts (S i)
  | 0, i, h, d, acts, Q, hq => by
    have e1 : i = N := by omega
    subst e1
    simp only [List.range'_zero, List.forIn_nil, wp_pure']
    exact hq _ _
  | r + 1, i, h, d, acts, Q, hq => by
    rw [List.range'_succ]
    simp only [List.forIn_cons, wp_bind']
    exact hstep i (by omega) _ _ _ (fun d' acts' => gm_loop hstep r (i + 1) (by omega) d' acts' Q hq)
theorem gm_make {E : CtlPost} {e : Env} {dd : Bool} {acts : List Action} {s : State} {c d cc : ClassId} {kc kd : Class} {n k : Int32} (hc : s.vm.classes[c]? = some kc) (hck : kc.kind = .array d (.array .int)) (hd : s.vm.classes[d]? = some kd) (hdk : kd.kind = .array cc .int) (hn : ¬ n < 0) (hk : ¬ k < 0)
    (l1 : n.toNatClampNeg ≤ e.platform.arrayLengthLimit) (l2 : k.toNatClampNeg ≤ e.platform.arrayLengthLimit) (l3 : n.toNatClampNeg * 4 ≤ e.platform.maxHeapBytes) (l4 : k.toNatClampNeg * 4 ≤ e.platform.maxHeapBytes)
    (r1 : s.heap.size + 1 + n.toNatClampNeg ≤ e.platform.maxCells) (r2 : s.slotsUsed + n.toNatClampNeg + n.toNatClampNeg * k.toNatClampNeg ≤ e.platform.maxSlots)
    {Q : Addr → Pre} (hq : ∀ d' acts', Q s.heap.size d' acts' (gm_at s c d n.toNatClampNeg k.toNatClampNeg n.toNatClampNeg)) : wp (Jvm.Op.multianewarray.make c [n, k]) Q E e dd acts s := by
  have nobad : ([k].find? (· < 0)) = none := by simp [hk]
  have first : ({ cls := c, slots := Array.replicate n.toNatClampNeg .null } : Cell) = gm_o c n.toNatClampNeg s.heap.size 0 := (arrV_new _ _ _).trans (ax_arrV_congr (fun j _ => (if_neg (Nat.not_lt_zero j)).symm))
  have row : ({ cls := d, slots := Array.replicate k.toNatClampNeg (.int 0) } : Cell) = gm_i d k.toNatClampNeg := arrV_new _ _ _
  rw [Jvm.Op.multianewarray.make]
  simp only [wp_bind', Jvm.W.ite, hn, if_false, wp_pure', Jvm.W.theClass, hc, hck, Option.some.injEq, exists_eq_left']
  refine Jvm.W.newArray_of hc hck (by omega) (by show ¬ _ * 4 > _; omega) (by omega) (by omega) rfl (fun acts' => ?_)
  rw [first]
  simp only [nobad]
  rw [ite_self, wp_bind', Std.Legacy.Range.forIn_eq_forIn_range']
  have hsz : ([:n.toNatClampNeg] : Std.Legacy.Range).size = n.toNatClampNeg := by simp [Std.Legacy.Range.size]
  rw [hsz]
  refine gm_loop (S := gm_at s c d n.toNatClampNeg k.toNatClampNeg) (N := n.toNatClampNeg) (fun i hi d' acts' Q' hq' => ?_) n.toNatClampNeg 0 (by omega) _ _ _ (fun d' acts' => by simp only [wp_pure']; exact hq d' acts')
  obtain ⟨g1, g2, ⟨g3, g4⟩, -⟩ := gm_has s c d n.toNatClampNeg k.toNatClampNeg i
  have hmul : i * k.toNatClampNeg + k.toNatClampNeg ≤ n.toNatClampNeg * k.toNatClampNeg := by
    rw [← Nat.succ_mul]
    exact Nat.mul_le_mul_right _ hi
  simp only [wp_bind']
  rw [Jvm.Op.multianewarray.make]
  simp only [wp_bind', Jvm.W.ite, hk, if_false, wp_pure', Jvm.W.theClass, g3, hd, hdk, Option.some.injEq, exists_eq_left']
  refine Jvm.W.newArray_of (by rw [g3]; exact hd) hdk (by omega) (by show ¬ _ * 4 > _; omega) (by omega) (by omega) rfl (fun acts2 => ?_)
  rw [show defaultValue .int = Value.int 0 from rfl, row]
  simp only [wp_bind', Jvm.W.writeLoc, wp_pure']
  refine ⟨gm_o c n.toNatClampNeg s.heap.size i, (State.heap_pushCell_of_lt _ _ (show s.heap.size < (gm_at s c d n.toNatClampNeg k.toNatClampNeg i).heap.size by omega)).trans g2, (fun q => by cases q), by rw [gm_o_size]; exact hi, ?_, ?_⟩
  · show State.fitsSlot _ c .none i _ = true
    simp [State.fitsSlot, State.slotType?, g3, hc, hck, fits]
  · rw [g1, gm_o_next]
    exact hq' _ _
section GM
variable {p : Program} {l : Launch} {e : Env} {R : Room} {s : State} {m : MethodId} {args : Array Value} {below : List Frame} {meth : Method} {c : Code} {T : State} {locs : List Loc} {cells slots : Nat}
theorem gm_stand (X : Stand p l e R s m args below meth c T locs cells slots) (cA cI : ClassId) (N K : Nat) : ∀ i, ∃ J : List Loc, Stand p l e R s m args below meth c (gm_at T cA cI N K i) (locs ++ J) (cells + 1 + i) (slots + N + i * K) ∧ ∀ x ∈ J, x.base = T.heap.size
  | 0 => by
    have h := X.pushed (gm_o cA N T.heap.size 0)
    rw [gm_o_size] at h
    refine ⟨[], ?_, fun x hx => by cases hx⟩
    simpa [gm_at] using h
  | i + 1 => by
    obtain ⟨J, h1, h2⟩ := gm_stand X cA cI N K i
    obtain ⟨g1, g2, -, -⟩ := gm_has T cA cI N K i
    have h3 := (h1.pushed (gm_i cI K)).stored (a := T.heap.size) ((State.heap_pushCell_of_lt _ _ (show T.heap.size < (gm_at T cA cI N K i).heap.size by omega)).trans g2) i (.ref (T.heap.size + 1 + i))
    rw [gm_o_next, gm_i_size, List.append_assoc] at h3
    refine ⟨J ++ [⟨T.heap.size, i⟩], ?_, fun x hx => ?_⟩
    · rw [show slots + N + (i + 1) * K = slots + N + i * K + K by rw [Nat.succ_mul]; omega]
      exact h3
    · rcases List.mem_append.mp hx with q | q
      · exact h2 x q
      · rw [List.mem_singleton.mp q]
/-- the step -/
theorem gm_step (X : Stand p l e R s m args below meth c T locs cells slots) (hexec : p.tables.exec = Jvm.exec) {own : String} {index : Nat} (hown : s.vm.findClass own = some m.cls) (hlink : (Cond.classLink own index "[[I").before args s = true) (hover : (Cond.arrayOver (.array .int)).before args s = true) (harr : (Cond.arrayClass .int).before args s = true)
    {g : JFrame} (hg : g.method = m) (hdg : decode c.code g.pc = .ok (.multianewarray index 2, 4)) {n k : Int32} {rest : List Value} (hst : g.stack = .int k :: .int n :: rest) (hn : ¬ n < 0) (hk : ¬ k < 0) (hn6 : n.toNatClampNeg ≤ 65536) (hk6 : k.toNatClampNeg ≤ 65536)
    (hcells : cells + (1 + n.toNatClampNeg) ≤ R.cells) (hslots : slots + (n.toNatClampNeg + n.toNatClampNeg * k.toNatClampNeg) ≤ R.slots) :
    ∃ (vm₁ : Vm) (cA cI : ClassId), s.vm.findClass "[[I" = some cA ∧ s.vm.findClass "[I" = some cI ∧ Stand p l e R s m args below meth c (gm_at (T.setVm vm₁) cA cI n.toNatClampNeg k.toNatClampNeg n.toNatClampNeg) locs (cells + 1 + n.toNatClampNeg) (slots + n.toNatClampNeg + n.toNatClampNeg * k.toNatClampNeg) ∧
      ∀ target, Steps p.tables e below ((gm_at (T.setVm vm₁) cA cI n.toNatClampNeg k.toNatClampNeg n.toNatClampNeg).setTop { g with pc := g.pc + 4, stack := .ref T.heap.size :: rest }) target → Steps p.tables e below (T.setTop g) target := by
  subst hg
  have hpl : e.platform.magicAccessors = ({} : Platform).magicAccessors := by rw [X.admits.platform]
  obtain ⟨cI, cA, kA, hI, -, hA1, hA2, hA⟩ := arrayOverA_spec hover
  obtain ⟨cI', kI, cc, hI', hI1, hI2⟩ := Cond.arrayClass_spec harr
  obtain rfl : cI' = cI := Option.some.inj (hI'.symm.trans hI)
  obtain ⟨c0, hc0, hcl⟩ := Cond.classLink_spec hown hlink e.platform hpl
  obtain rfl : cA = c0 := Option.some.inj (hA.symm.trans hc0)
  obtain ⟨hgv, hwm, -⟩ := State.classEntry (e := e) X.warmed hcl
  generalize T.vm.noted g.method.cls index (.cls cA) = vm₁ at hgv hwm
  obtain ⟨kA1, hA3, eA⟩ := hwm.alike.2.2 _ _ hA1
  obtain ⟨kI1, hI3, eI⟩ := hwm.alike.2.2 _ _ hI1
  have X1 := X.noted hwm
  obtain ⟨J, XJ, hJ⟩ := gm_stand X1 cA cI' n.toNatClampNeg k.toNatClampNeg n.toNatClampNeg
  have XF := XJ.dropFresh (fun x hx => by rw [hJ x hx]; exact X1.heapGrown)
  refine ⟨vm₁, cA, cI', hA, hI, XF, fun target hrest => ?_⟩
  obtain ⟨q1, q2⟩ := X.roomAbove hcells hslots
  have p1 : 65536 ≤ e.platform.arrayLengthLimit := by rw [Launch.admits_arrayLengthLimit X.admits]; omega
  have p2 : 262144 ≤ e.platform.maxHeapBytes := by rw [Launch.admits_maxHeapBytes X.admits]; omega
  jvm_step X.here [hexec, hdg]
  simp only [Jvm.Op.multianewarray.sem, wp_bind', Jvm.W.resolveClassAt_links (State.method?_setTop g X.here.top) hgv]
  refine (popN_top (s := T.setVm vm₁) (f := g) (args := [.int n, .int k]) (rest := rest) X.here.top hst).mpr ?_
  simp only [List.mapM_cons, List.mapM_nil, wp_bind', wp_pure']
  refine gm_make (kc := kA1) (kd := kI1) (d := cI') (cc := cc) hA3 (by rw [eA]; exact hA2) hI3 (by rw [eI]; exact hI2) hn hk (by omega) (by omega) (by omega) (by omega) (by show T.heap.size + 1 + _ ≤ _; omega) (by show T.slotsUsed + _ + _ ≤ _; omega) (fun d' acts' => ?_)
  rw [gm_top]
  simp only [wp_bind', Jvm.W.mark, Jvm.W.pushRef, State.topJava?_setTop' _ XF.here.top, Option.some.injEq, exists_eq_left', State.setTop_setTop, State.heap_setTop]
  intro acts
  simp [jvm, XF.here.top]
  exact hrest
end GM
