/-! the environment of a frame, and what one instruction of the abstract machine says of the machine's -/
def ax_A (Hb : Heap) : Nat → Prop := fun q => Hb.size ≤ q
def ax_t2 (t : Nat) : FieldType := match t with
  | 0 => .int
  | 1 => .byte
  | 2 => .boolean
  | 3 => .object "SymmetryTax$Thing"
  | 4 => .object "SymmetryTax$Books"
  | 5 => .object "SymmetryTax$Paper"
  | 6 => .object "SymmetryTax$Law"
  | 7 => .array .int
  | _ => .long
def ax_tys (dA : Nat → ClassId) : List (ClassId × FieldType) := (List.range 9).map (fun t => (dA t, ax_t2 t))
def ax_sn (a : Nat) : String := match a with
  | 0 => "FIRST_TERMS"
  | 1 => "LEAST_TERMS"
  | _ => "MOST_TERMS"
def ax_AOA (U : State) : Prop := (Cond.arrayOver (.array .int)).before #[] U = true
theorem ax_AOA.moved {u U : State} (hvm : u.vm.Alike U.vm) (h : ax_AOA u) : ax_AOA U := by
  obtain ⟨comp, c, k, h1, h2, h3, h4, h5⟩ := arrayOverA_spec h
  obtain ⟨k', hk', he⟩ := hvm.2.2 _ _ h3
  have hi : (U.vm.classes.findIdx? fun (x : Class) => match x.kind with | .array component _ => component == comp | _ => false) = some c := by
    have e3 : U.vm.bare = u.vm.bare := by first | exact hvm.bare_eq | exact hvm.bare_eq.symm
    have e1 := va_idx_bare U.vm comp
    rw [e3] at e1
    exact e1.symm.trans ((va_idx_bare u.vm comp).trans h2)
  have hkind : k'.kind = .array comp (.array .int) := by rw [he]; exact h4
  have f1 : U.vm.findClass (FieldType.array .int).toString = some comp := by rw [hvm.findClass]; exact h1
  have f2 : U.vm.findClass ("[" ++ (FieldType.array .int).toString) = some c := by rw [hvm.findClass]; exact h5
  unfold ax_AOA Cond.before Cond.holds
  simp only [Cond.value]
  rw [f1, Option.bind_some]
  refine (congrArg (fun o : Option Nat => (o.bind (fun c => (U.vm.classes[c]?).map fun (k : Class) => match k.kind with | .array _ ty => decide (ty = FieldType.array .int) && decide (U.vm.findClass ("[" ++ (FieldType.array .int).toString) = some c) | _ => false) == some true)) hi).trans ?_
  simp [hk', hkind, f2]
def ax_env (D : va_G) (dA : Nat → ClassId) (Hb : Heap) (h0 : AH) (ro : Nat → Nat → Nat) (U : State) : Prop :=
  va_K D ax_cls (ax_tys dA) U ∧ (∀ w ∈ ax_nw, va_Nw w U) ∧
  (∀ s a, (ax_sk s).1 = 2 → a < h0.2.2.1 s → va_T (ax_t2 (ax_sk s).2) (ro s a) (ax_len h0 s a) (fun j => .int (h0.1 s a j)) (ax_A Hb) U Hb) ∧
  (∀ a, a < h0.2.2.1 x_str → va_O "java/lang/String" (ro x_str a) (ax_A Hb) U Hb ∧ va_OF "java/lang/String" "coder" "B" (.int (h0.1 x_str a 0)) (ro x_str a) (ax_A Hb) U Hb ∧ va_OF "java/lang/String" "value" "[B" (ax_rv ro (h0.2.1 x_str a 1)) (ro x_str a) (ax_A Hb) U Hb) ∧
  ((∀ a, a < 3 → va_Z "SymmetryTax" (ax_sn a) "[I" (.ref (ro x_stat a)) (ax_A Hb) U Hb) ∧ va_Z "java/lang/String" "COMPACT_STRINGS" "Z" (.int 1) (ax_A Hb) U Hb ∧ va_Z "jdk/internal/util/Preconditions" "SIOOBE_FORMATTER" "Ljava/util/function/BiFunction;" (ax_rv ro (h0.2.1 x_fmt 0 0)) (ax_A Hb) U Hb) ∧
  (h0.2.2.1 x_stat = 3 ∧ h0.2.2.1 x_str = 14 ∧ h0.2.2.1 x_fmt = 1 ∧ (∀ a j t b, h0.2.1 x_str a j = some (t, b) → ¬ ax_own t) ∧ (∀ a j t b, h0.2.1 x_fmt a j = some (t, b) → ¬ ax_own t)) ∧
  (∀ a, a < 14 → vk_R (ax_strs.getD a ("", 0, "")).1 (ax_strs.getD a ("", 0, "")).2.1 (ax_strs.getD a ("", 0, "")).2.2 (ro x_str a) U) ∧
  (va_AO "SymmetryTax$Thing" U ∧ va_AO "SymmetryTax$Books" U ∧ va_AO "SymmetryTax$Paper" U ∧ va_AO "SymmetryTax$Law" U ∧ ax_AOA U)
theorem ax_nw_warm {s U : State} (hW : s.WarmedH U.vm) (h : ∀ w ∈ ax_nw, va_Nw w s) : ∀ w ∈ ax_nw, va_Nw w U := by
  intro w hw
  have h1 := h w hw
  have h2 : (∃ a i x y, w = .methodLinkNest a i x y) ∨ (∃ a i b n d y, w = .fieldLinkNest a i b n d y) ∨ ∃ a b, w = .castable a b := by
    unfold ax_nw at hw
    simp only [List.mem_cons, List.not_mem_nil, or_false] at hw
    rcases hw with rfl | rfl | rfl | rfl | rfl | rfl | rfl | rfl | rfl | rfl | rfl | rfl | rfl | rfl | rfl | rfl | rfl | rfl | rfl
    all_goals first
      | exact Or.inl ⟨_, _, _, _, rfl⟩
      | exact Or.inr (Or.inl ⟨_, _, _, _, _, _, rfl⟩)
      | exact Or.inr (Or.inr ⟨_, _, rfl⟩)
  rcases h2 with ⟨a, i, x, y, rfl⟩ | ⟨a, i, b, n, d, y, rfl⟩ | ⟨a, b, rfl⟩
  · exact va_Nw.warmM hW h1
  · exact va_Nw.warmF hW h1
  · exact va_Nw.warmC hW h1
theorem ax_env.warm {D : va_G} {dA : Nat → ClassId} {Hb : Heap} {h0 : AH} {ro : Nat → Nat → Nat} {s U : State} (hW : s.WarmedH U.vm) (h : ax_env D dA Hb h0 ro s) : ax_env D dA Hb h0 ro U := by
  obtain ⟨e1, e2, e3, e4, ⟨e5, e6, e7⟩, e75, e8, e9, e10, e11, e12, e13⟩ := h
  have hA := hW.alike
  exact ⟨va_K.moved hA e1, ax_nw_warm hW e2, fun s a h1 h2 => va_T.moved hA (e3 s a h1 h2), fun a h1 => ⟨va_O.moved hA (e4 a h1).1, va_OF.moved hA (e4 a h1).2.1, va_OF.moved hA (e4 a h1).2.2⟩, ⟨fun a h1 => va_Z.moved hA (e5 a h1), va_Z.moved hA e6, va_Z.moved hA e7⟩, e75, fun a h1 => vk_R.warm hW (e8 a h1), va_AO.moved hA e9, va_AO.moved hA e10, va_AO.moved hA e11, va_AO.moved hA e12, ax_AOA.moved hA e13⟩
def ax_cx (p : Program) (l : Launch) (e : Env) (R : Room) (s : State) (mM : MethodId) (args : Array Value) (below : List Frame) (meth : Method) (c : Code) (D : va_G) (dA : Nat → ClassId) (Hb : Heap) (h0 : AH) (ro : Nat → Nat → Nat) (d m : Nat) (hF hS : AH) : Prop :=
  p.tables.exec = Jvm.exec ∧ c.code = ax_bc m ∧ c.maxLocals = ax_mL m ∧ s.vm.findClass (ax_cn (ax_mc m)) = some mM.cls ∧ (∀ w ∈ lw_all, w.before args s = true) ∧ ax_env D dA Hb h0 ro s ∧ meth.name = (ax_y m).name ∧ Hb.size ≤ s.heap.size ∧
  (d + 1 ≤ R.frames ∧ 40 * (d + 1) ≤ R.locals ∧ hF.2.2.2.2.1 - hS.2.2.2.2.1 ≤ R.cells ∧ hF.2.2.2.2.2 - hS.2.2.2.2.2 ≤ R.slots) ∧ m < 256
def ax_si (D : va_G) (dA : Nat → ClassId) (Hb : Heap) (h0 : AH) (ro ρ0 : Nat → Nat → Nat) (hS : AH) (m : Nat) (ρ : Nat → Nat → Nat) (h : AH) (H : Heap) (L : AL) (st : List AV) (ls : Array Slot) (locs : List Loc) : Prop :=
  ax_wd D dA Hb h0 ro ρ h H ∧ (∀ s a, a < hS.2.2.1 s → ρ s a = ρ0 s a) ∧ (∀ s, hS.2.2.1 s ≤ h.2.2.1 s) ∧ (∀ i v, ax_lget L i = some v → ax_alive h v) ∧ (∀ v ∈ st, ax_alive h v) ∧ ax_lrel ρ L ls (ax_mL m) ∧ (∀ q ∈ locs, Hb.size ≤ q.base) ∧ hS.2.2.2.2.1 ≤ h.2.2.2.2.1 ∧ hS.2.2.2.2.2 ≤ h.2.2.2.2.2
def ax_gd (p : Program) (l : Launch) (e : Env) (R : Room) (s : State) (mM : MethodId) (args : Array Value) (below : List Frame) (meth : Method) (c : Code) (QF : State → Prop) (D : va_G) (dA : Nat → ClassId) (Hb : Heap) (h0 : AH) (ro ρ0 : Nat → Nat → Nat) (hF hS : AH) (m : Nat) (f : AF) (h : AH) : Prop :=
  f.1 = m ∧ (h.2.2.2.2.1 ≤ hF.2.2.2.2.1 ∧ h.2.2.2.2.2 ≤ hF.2.2.2.2.2) ∧ ∀ (ρ : Nat → Nat → Nat) (H : Heap) (locs : List Loc) (ls : Array Slot), ax_si D dA Hb h0 ro ρ0 hS m ρ h H f.2.2.1 f.2.2.2 ls locs →
    W p l e R s mM args below meth c H locs (h.2.2.2.2.1 - hS.2.2.2.2.1) (h.2.2.2.2.2 - hS.2.2.2.2.2) QF (F0 mM f.2.1 ls (f.2.2.2.map (ax_cv ρ)))
theorem ax_al_i {h : AH} {x : Int32} : ax_alive h (.inl x) := fun _ _ e => by cases e
theorem ax_al_l {h : AH} {x : Int64} : ax_alive h (.inr (.inl x)) := fun _ _ e => by cases e
theorem ax_al_n {h : AH} : ax_alive h (.inr (.inr none)) := fun _ _ e => by cases e
theorem ax_al_r {h : AH} {s a : Nat} (ha : a < h.2.2.1 s) : ax_alive h (.inr (.inr (some (s, a)))) := fun _ _ e => by cases e; exact ha
theorem ax_al_q {h : AH} {r : AR} (ha : ∀ s a, r = some (s, a) → a < h.2.2.1 s) : ax_alive h (.inr (.inr r)) := fun s a e => by cases e; exact ha s a rfl
theorem ax_fm {α : Type} {P : α → Prop} {v : α} {l : List α} (h1 : P v) (h2 : ∀ x ∈ l, P x) : ∀ x ∈ v :: l, P x := List.forall_mem_cons.mpr ⟨h1, h2⟩
theorem ax_fm1 {α : Type} {P : α → Prop} {v : α} {l : List α} (h : ∀ x ∈ v :: l, P x) : P v ∧ ∀ x ∈ l, P x := List.forall_mem_cons.mp h
theorem ax_nxt {nx pc k : Nat} (h : Nat.beq nx (pc + k) = true) : nx = pc + k := Nat.eq_of_beq_eq_true h
theorem ax_rv_cases {ρ : Nat → Nat → Nat} (r : AR) : ax_rv ρ r = .null ∨ ∃ y, ax_rv ρ r = .ref y := by
  match r with
  | none => exact Or.inl rfl
  | some (s, a) => exact Or.inr ⟨ρ s a, rfl⟩
theorem ax_ct_word {j : Nat} (h : j < 6) : Cond.constant (ax_cn (ax_ctj j).1) (ax_ctj j).2.1 (ax_ctj j).2.2.1 ∈ lw_all := ax_in_all (decide_eq_true_eq.mp (List.all_eq_true.mp ax_ct_all j (List.mem_range.mpr h))) rfl
theorem ax_lt_word {j : Nat} (h : j < 10) : Cond.constantLong (ax_cn (ax_ltj j).1) (ax_ltj j).2.1 (ax_ltj j).2.2.1.toInt64 ∈ lw_all := ax_in_all (decide_eq_true_eq.mp (List.all_eq_true.mp ax_lt_all j (List.mem_range.mpr h))) rfl
theorem ax_kt_word {j : Nat} (h : j < 17) : Cond.classLink (ax_cn (ax_ktj j).1) (ax_ktj j).2.1 (ax_ktj j).2.2.1 ∈ lw_all := ax_in_all (decide_eq_true_eq.mp (List.all_eq_true.mp ax_kt_all j (List.mem_range.mpr h))) rfl

theorem ax_no_str : ¬ ax_own x_str := by unfold ax_own; decide
theorem ax_no_fmt : ¬ ax_own x_fmt := by unfold ax_own; decide
theorem ax_no_stat : ¬ ax_own x_stat := by unfold ax_own; decide
theorem ax_fl_word {j : Nat} (h : j < 221) : Cond.fieldLink (ax_cn (ax_fl j).1) (ax_fl j).2.1 (ax_cn (ax_fl j).2.2.1) (ax_T (ax_fl j).2.2.1 (ax_fl j).2.2.2.1).2.1 (ax_T (ax_fl j).2.2.1 (ax_fl j).2.2.2.1).2.2.1 ∈ lw_all ∧ ax_cn (ax_fl j).2.2.1 = (ax_T (ax_fl j).2.2.1 (ax_fl j).2.2.2.1).1 := by
  have h1 := List.all_eq_true.mp ax_fl_all j (List.mem_range.mpr h)
  unfold ax_flok at h1
  rw [Bool.and_eq_true, decide_eq_true_eq, decide_eq_true_eq] at h1
  exact ⟨ax_in_all h1.1 rfl, h1.2⟩
theorem ax_sf_use {m a b : Nat} {n : Int32} {r : Bool} (h : ax_sf m a b n r = true) : Cond.fieldLink (ax_cn (ax_mc m)) (ax_fl n.toNatClampNeg).2.1 (ax_cn a) (ax_T a b).2.1 (ax_T a b).2.2.1 ∈ lw_all ∧ ax_cn a = (ax_T a b).1 ∧ b < ax_N a ∧ ax_fr a b = r := by
  unfold ax_sf at h
  simp only [Bool.and_eq_true, beq_iff_eq] at h
  obtain ⟨h1, h2, h3, h4, h5, h6⟩ := h
  have h7 := ax_fl_word (Nat.le_of_ble_eq_true h6)
  rw [Nat.eq_of_beq_eq_true h1, Nat.eq_of_beq_eq_true h2, Nat.eq_of_beq_eq_true h3] at h7
  exact ⟨h7.1, h7.2, Nat.le_of_ble_eq_true h4, h5⟩
theorem ax_cls_get {a : Nat} (h : a < 13) : ax_cls[a]? = some (ax_cn a, ax_T a, ax_N a) := by
  unfold ax_cls
  rw [List.getElem?_map, List.getElem?_range h]
  rfl
theorem ax_cl_use {a : Nat} (h : a < 13) : (∀ w ∈ u_ws (ax_cn a) (ax_T a) (ax_N a), w ∈ lw_all) ∧ Cond.instantiable (ax_cn a) (ax_N a) ∈ lw_all ∧ Cond.initialized (ax_cn a) ∈ lw_all ∧ (∀ k, k < ax_N a → parseFieldDescriptor (ax_T a k).2.2.1 = some (ax_fty a k)) ∧ (∀ k, k < ax_N a → (ax_T a k).1 = ax_cn a) ∧ (∀ i, i < ax_N a → ∀ j, j < ax_N a → i ≠ j → (ax_T a i).2.1 ≠ (ax_T a j).2.1) := by
  have h1 := ax_cl_all a h
  unfold ax_clok at h1
  simp only [Bool.and_eq_true, decide_eq_true_eq, List.all_eq_true, List.mem_range, Bool.or_eq_true] at h1
  obtain ⟨h1, h2, h3, h4, h5⟩ := h1
  refine ⟨fun w hw => ?_, h2, h3, fun k hk => ?_, fun k hk => (h4 k hk).2, fun i hi j hj hij => ?_⟩
  · obtain ⟨k, hk, rfl⟩ := List.mem_map.mp hw
    exact h1 k (List.mem_range.mp hk)
  · have := (h4 k hk).1
    unfold ax_fty
    cases hp : parseFieldDescriptor (ax_T a k).2.2.1 with
    | none => rw [hp] at this; cases this
    | some x => rfl
  · rcases h5 i hi j hj with q | q
    · exact absurd (Nat.eq_of_beq_eq_true q) hij
    · exact q
theorem ax_sk_big {s : Nat} (h : 106 ≤ s) : ax_sk s = (9, 0) := by
  have hk : ∀ k, k ≤ 105 → Nat.blt s k = false := fun k hk => Bool.eq_false_iff.mpr (fun q => absurd (Nat.le_of_ble_eq_true q) (by omega))
  have hk2 : ∀ k, k ≤ 105 → Nat.beq s k = false := fun k hk => Bool.eq_false_iff.mpr (fun q => absurd (Nat.eq_of_beq_eq_true q) (by omega))
  unfold ax_sk
  repeat (first | rw [hk _ (by decide)] | rw [hk2 _ (by decide)]; simp only [cond_false])
theorem ax_sk0_lt {s : Nat} (h : (ax_sk s).1 = 0) : (ax_sk s).2 < 13 := by
  by_cases e : s < 106
  · have : ∀ s, s < 106 → (ax_sk s).1 = 0 → (ax_sk s).2 < 13 := by decide +kernel
    exact this s e h
  · rw [ax_sk_big (by omega)] at h
    exact absurd h (by decide)
theorem ax_sk3 {s : Nat} (h : (ax_sk s).1 = 3) : s = x_str ∧ (ax_sk s).2 = 13 := by
  by_cases e : s < 106
  · have : ∀ s, s < 106 → (ax_sk s).1 = 3 → s = x_str ∧ (ax_sk s).2 = 13 := by decide +kernel
    exact this s e h
  · rw [ax_sk_big (by omega)] at h
    exact absurd h (by decide)
theorem ax_nb8 {c : Nat} (h : Nat.ble 3 c = false) : Nat.beq c 8 = false := by
  cases hz : Nat.beq c 8 with
  | false => rfl
  | true =>
    rw [Nat.eq_of_beq_eq_true hz] at h
    exact absurd h (by decide)
theorem ax_rb8 {c : Nat} (h : Nat.ble c 7 = true) : Nat.beq c 8 = false := by
  cases hz : Nat.beq c 8 with
  | false => rfl
  | true =>
    rw [Nat.eq_of_beq_eq_true hz] at h
    exact absurd h (by decide)
theorem ax_sk1_lt {s : Nat} (h : (ax_sk s).1 = 1) : (ax_sk s).2 < 9 := by
  by_cases e : s < 106
  · have : ∀ s, s < 106 → (ax_sk s).1 = 1 → (ax_sk s).2 < 9 := by decide +kernel
    exact this s e h
  · rw [ax_sk_big (by omega)] at h
    exact absurd h (by decide)
theorem ax_sk2_ble {s : Nat} (h : (ax_sk s).1 = 2) : Nat.ble 3 (ax_sk s).2 = false := by
  by_cases e : s < 106
  · have : ∀ s, s < 106 → (ax_sk s).1 = 2 → Nat.ble 3 (ax_sk s).2 = false := by decide +kernel
    exact this s e h
  · rw [ax_sk_big (by omega)] at h
    exact absurd h (by decide)
theorem ax_tys_get {dA : Nat → ClassId} {t : Nat} (h : t < 9) : (ax_tys dA)[t]? = some (dA t, ax_t2 t) := by
  unfold ax_tys
  rw [List.getElem?_map, List.getElem?_range h]
  rfl
theorem ax_t2_ref {t : Nat} (h : Nat.ble 3 t = true) (h7 : Nat.ble t 7 = true) : (ax_t2 t).isReference = true := by
  have h := Nat.le_of_ble_eq_true h
  have h7 := Nat.le_of_ble_eq_true h7
  match t, h, h7 with
  | 3, _, _ => rfl
  | 4, _, _ => rfl
  | 5, _, _ => rfl
  | 6, _, _ => rfl
  | 7, _, _ => rfl
theorem ax_sum_w (ρ : Nat → Nat → Nat) : ∀ st : List AV, ((st.map (ax_cv ρ)).map fun v => v.category).sum = ax_w st
  | [] => rfl
  | v :: st => by
    rw [List.map_cons, List.map_cons, List.sum_cons, ax_sum_w ρ st, ax_cv_cat]
    rfl
theorem ax_sk_cls {a : Nat} (h : a < 13) : ax_sk a = (0, a) := by
  have : ∀ a, a < 13 → ax_sk a = (0, a) := by decide +kernel
  exact this a h
theorem ax_t2_obj {t : Nat} (h : 3 ≤ t) (h6 : t ≤ 6) : ax_t2 t = .object (ax_cn (ax_tc t)) ∧ ax_tc t < 13 := by
  match t, h, h6 with
  | 3, _, _ => exact ⟨rfl, by decide⟩
  | 4, _, _ => exact ⟨rfl, by decide⟩
  | 5, _, _ => exact ⟨rfl, by decide⟩
  | 6, _, _ => exact ⟨rfl, by decide⟩
theorem ax_w_mn : Cond.static Lib.Math.min.name ∈ lw_all ∧ Cond.initialized "java/lang/Math" ∈ lw_all ∧ Cond.code Lib.Math.min.name Lib.Math.min.code 2 (some .int) ∈ lw_all := by decide +kernel
theorem ax_w_mx : Cond.static Lib.Math.max.name ∈ lw_all ∧ Cond.initialized "java/lang/Math" ∈ lw_all ∧ Cond.code Lib.Math.max.name Lib.Math.max.code 2 (some .int) ∈ lw_all := by decide +kernel
theorem ax_w_gs : Cond.fieldLink "SymmetryTax" 155 "SymmetryTax" "LEAST_TERMS" "[I" ∈ lw_all ∧ Cond.fieldLink "SymmetryTax" 158 "SymmetryTax" "MOST_TERMS" "[I" ∈ lw_all ∧ Cond.fieldLink "java/lang/String" 38 "java/lang/String" "COMPACT_STRINGS" "Z" ∈ lw_all ∧ Cond.fieldLink "java/lang/String" 1053 "jdk/internal/util/Preconditions" "SIOOBE_FORMATTER" "Ljava/util/function/BiFunction;" ∈ lw_all := by decide +kernel
theorem ax_w_gn : Cond.fieldLinkNest "SymmetryTax$Books" 38 "SymmetryTax" "FIRST_TERMS" "[I" "SymmetryTax" ∈ ax_nw := by decide +kernel
theorem ax_w_cs : Cond.castable "[I" "java/lang/Cloneable" ∈ ax_nw := by decide +kernel
theorem ax_sz_get {h : AH} {t o a b : Nat} (hoc : ax_oc t a = true) (hb : b < ax_N a) : b < ax_sz h t o := by
  unfold ax_oc at hoc
  rw [Bool.and_eq_true, Bool.or_eq_true] at hoc
  obtain ⟨hk, hc⟩ := hoc
  have hc := Nat.eq_of_beq_eq_true hc
  rcases hk with hk | hk
  · rw [ax_sz0 (Nat.eq_of_beq_eq_true hk), hc]
    exact hb
  · obtain ⟨rfl, h13⟩ := ax_sk3 (Nat.eq_of_beq_eq_true hk)
    have ha : a = 13 := by rw [← hc]; exact h13
    subst ha
    exact hb
theorem ax_tpo0 {x : Int32} (h : x.toInt < 0 ∨ 5 < x.toInt) : ax_tp0 x = 86 := by
  have e1 : (0 : Int32).toInt = 0 := by decide
  have e2 : (5 : Int32).toInt = 5 := by decide
  have h3 : (decide (x < 0) || decide (5 < x)) = true := by
    rw [Bool.or_eq_true, decide_eq_true_eq, decide_eq_true_eq, Int32.lt_iff_toInt_lt, Int32.lt_iff_toInt_lt, e1, e2]
    exact h
  unfold ax_tp0
  rw [h3]
  rfl
theorem ax_tpo1 {x : Int32} (h : x.toInt < 0 ∨ 12 < x.toInt) : ax_tp1 x = 107 := by
  have e1 : (0 : Int32).toInt = 0 := by decide
  have e2 : (12 : Int32).toInt = 12 := by decide
  have h3 : (decide (x < 0) || decide (12 < x)) = true := by
    rw [Bool.or_eq_true, decide_eq_true_eq, decide_eq_true_eq, Int32.lt_iff_toInt_lt, Int32.lt_iff_toInt_lt, e1, e2]
    exact h
  unfold ax_tp1
  rw [h3]
  rfl
theorem ax_tpo2 {x : Int32} (h : x.toInt < 0 ∨ 7 < x.toInt) : ax_tp2 x = 114 := by
  have e1 : (0 : Int32).toInt = 0 := by decide
  have e2 : (7 : Int32).toInt = 7 := by decide
  have h3 : (decide (x < 0) || decide (7 < x)) = true := by
    rw [Bool.or_eq_true, decide_eq_true_eq, decide_eq_true_eq, Int32.lt_iff_toInt_lt, Int32.lt_iff_toInt_lt, e1, e2]
    exact h
  unfold ax_tp2
  rw [h3]
  rfl
theorem ax_tpo3 {x : Int32} (h : x.toInt < 2 ∨ 7 < x.toInt) : ax_tp3 x = 92 := by
  have e1 : (2 : Int32).toInt = 2 := by decide
  have e2 : (7 : Int32).toInt = 7 := by decide
  have h3 : (decide (x < 2) || decide (7 < x)) = true := by
    rw [Bool.or_eq_true, decide_eq_true_eq, decide_eq_true_eq, Int32.lt_iff_toInt_lt, Int32.lt_iff_toInt_lt, e1, e2]
    exact h
  unfold ax_tp3
  rw [h3]
  rfl
theorem ax_tpo4 {x : Int32} (h : x.toInt < 0 ∨ 9 < x.toInt) : ax_tp4 x = 137 := by
  have e1 : (0 : Int32).toInt = 0 := by decide
  have e2 : (9 : Int32).toInt = 9 := by decide
  have h3 : (decide (x < 0) || decide (9 < x)) = true := by
    rw [Bool.or_eq_true, decide_eq_true_eq, decide_eq_true_eq, Int32.lt_iff_toInt_lt, Int32.lt_iff_toInt_lt, e1, e2]
    exact h
  unfold ax_tp4
  rw [h3]
  rfl
theorem ax_tpo5 {x : Int32} (h : x.toInt < 0 ∨ 7 < x.toInt) : ax_tp5 x = 187 := by
  have e1 : (0 : Int32).toInt = 0 := by decide
  have e2 : (7 : Int32).toInt = 7 := by decide
  have h3 : (decide (x < 0) || decide (7 < x)) = true := by
    rw [Bool.or_eq_true, decide_eq_true_eq, decide_eq_true_eq, Int32.lt_iff_toInt_lt, Int32.lt_iff_toInt_lt, e1, e2]
    exact h
  unfold ax_tp5
  rw [h3]
  rfl
theorem ax_tpo6 {x : Int32} (h : x.toInt < 0 ∨ 13 < x.toInt) : ax_tp6 x = 176 := by
  have e1 : (0 : Int32).toInt = 0 := by decide
  have e2 : (13 : Int32).toInt = 13 := by decide
  have h3 : (decide (x < 0) || decide (13 < x)) = true := by
    rw [Bool.or_eq_true, decide_eq_true_eq, decide_eq_true_eq, Int32.lt_iff_toInt_lt, Int32.lt_iff_toInt_lt, e1, e2]
    exact h
  unfold ax_tp6
  rw [h3]
  rfl
theorem ax_tpo7 {x : Int32} (h : x.toInt < 0 ∨ 38 < x.toInt) : ax_tp7 x = 1421 := by
  have e1 : (0 : Int32).toInt = 0 := by decide
  have e2 : (38 : Int32).toInt = 38 := by decide
  have h3 : (decide (x < 0) || decide (38 < x)) = true := by
    rw [Bool.or_eq_true, decide_eq_true_eq, decide_eq_true_eq, Int32.lt_iff_toInt_lt, Int32.lt_iff_toInt_lt, e1, e2]
    exact h
  unfold ax_tp7
  rw [h3]
  rfl
theorem ax_tsw_out {a : Nat} {x : Int32} (h : x.toInt < (ax_tst a).2.1 ∨ (ax_tst a).2.2.1 < x.toInt) (h0 : 0 ≤ (ax_tst a).2.1) : ax_tsw a x = ax_tsw a (-1) := by
  by_cases ha : a < 8
  · match a, ha, h with
    | 0, _, h => exact (ax_tpo0 h).trans (ax_tpo0 (x := -1) (Or.inl (by decide))).symm
    | 1, _, h => exact (ax_tpo1 h).trans (ax_tpo1 (x := -1) (Or.inl (by decide))).symm
    | 2, _, h => exact (ax_tpo2 h).trans (ax_tpo2 (x := -1) (Or.inl (by decide))).symm
    | 3, _, h => exact (ax_tpo3 h).trans (ax_tpo3 (x := -1) (Or.inl (by decide))).symm
    | 4, _, h => exact (ax_tpo4 h).trans (ax_tpo4 (x := -1) (Or.inl (by decide))).symm
    | 5, _, h => exact (ax_tpo5 h).trans (ax_tpo5 (x := -1) (Or.inl (by decide))).symm
    | 6, _, h => exact (ax_tpo6 h).trans (ax_tpo6 (x := -1) (Or.inl (by decide))).symm
    | 7, _, h => exact (ax_tpo7 h).trans (ax_tpo7 (x := -1) (Or.inl (by decide))).symm
  · have hk : ∀ k, k ≤ 8 → Nat.blt a k = false := fun k hk => Bool.eq_false_iff.mpr (fun q => absurd (Nat.le_of_ble_eq_true q) (by omega))
    have hk2 : ∀ k, k < 8 → Nat.beq a k = false := fun k hk => Bool.eq_false_iff.mpr (fun q => absurd (Nat.eq_of_beq_eq_true q) (by omega))
    have e : ∀ y, ax_tsw a y = 0 := fun y => by
      unfold ax_tsw
      repeat (first | rw [hk _ (by decide)] | rw [hk2 _ (by decide)]; simp only [cond_false])
    rw [e, e]

/-- what a return says -/
def ax_rk (m : Nat) (r : Option AV) (i : Instr) (ρ : Nat → Nat → Nat) (stv : List Value) : Prop :=
  (i = .ireturn ∧ ∃ x ty, r = some (.inl x) ∧ stv = [.int x] ∧ ax_rt m = some ty ∧ narrow ty (.int x) = .int x) ∨ (i = .lreturn ∧ ∃ x, r = some (.inr (.inl x)) ∧ stv = [.long x] ∧ ax_rt m = some .long) ∨
  (i = .areturn ∧ ∃ q ty, r = some (.inr (.inr q)) ∧ stv = [ax_rv ρ q] ∧ ax_rt m = some ty ∧ ((∃ n, ty = .object n) ∨ ∃ t, ty = .array t)) ∨ (i = .return_ ∧ r = none ∧ stv = [] ∧ ax_rt m = none)
def ax_hr (p : Program) (l : Launch) (e : Env) (R : Room) (s : State) (mM : MethodId) (args : Array Value) (below : List Frame) (meth : Method) (c : Code) (QF : State → Prop) (D : va_G) (dA : Nat → ClassId) (Hb : Heap) (h0 : AH) (ro ρ0 : Nat → Nat → Nat) (hF hS : AH) (m : Nat) (r : Option AV) : Prop :=
  ∀ (ρ : Nat → Nat → Nat) (H : Heap) (locs : List Loc) (ls : Array Slot) (pc : Nat) (i : Instr) (stv : List Value), ax_wd D dA Hb h0 ro ρ hF H → (∀ s a, a < hS.2.2.1 s → ρ s a = ρ0 s a) → (∀ q ∈ locs, Hb.size ≤ q.base) → decode (ax_bc m) pc = .ok (i, 1) → ax_rk m r i ρ stv → (∀ v, r = some v → ax_alive hF v) →
    W p l e R s mM args below meth c H locs (hF.2.2.2.2.1 - hS.2.2.2.2.1) (hF.2.2.2.2.2 - hS.2.2.2.2.2) QF (F0 mM pc ls stv)

/-- an array's place is written -/
theorem ax_wst {D : va_G} {dA : Nat → ClassId} {Hb : Heap} {h0 : AH} {ro ρ : Nat → Nat → Nat} {h h' : AH} {H H' : Heap} (hw : ax_wd D dA Hb h0 ro ρ h H) {t o j : Nat} {v : Value} (hk : (ax_sk t).1 = 1) (ho : o < h.2.2.1 t) (e1 : H'[ρ t o]? = some ((arrV (dA (ax_sk t).2) (ax_len h t o) (ax_eval ρ h t o (ax_sk t).2)).setSlot j v)) (e2 : H'.size = H.size) (e3 : ∀ q, q ≠ ρ t o → H'[q]? = H[q]?)
    (hg : h'.2.2 = h.2.2) (hI : ∀ x y k, ¬ (x = t ∧ y = o) → h'.1 x y k = h.1 x y k) (hR : ∀ x y k, ¬ (x = t ∧ y = o) → h'.2.1 x y k = h.2.1 x y k) (hv : ∀ k, k < ax_len h t o → updV (ax_eval ρ h t o (ax_sk t).2) j v k = ax_eval ρ h' t o (ax_sk t).2 k) (hl : ax_refs h' t o) : ax_wd D dA Hb h0 ro ρ h' H' := by
  refine hw.set (by unfold ax_own; omega) ho hg hI hR e2 e3 ⟨fun q => absurd q (by omega), fun _ => ?_⟩ hl
  rw [e1, arrV_store, ax_len_congr (h := h) (h' := h') (by rw [hg])]
  congr 1
  exact ax_arrV_congr (fun k hk => hv k hk)
theorem ax_ev_I {ρ : Nat → Nat → Nat} {h : AH} {t o j c : Nat} {v : Int32} (hc : Nat.ble 3 c = false) (k : Nat) : updV (ax_eval ρ h t o c) j (.int v) k = ax_eval ρ (ax_wI h.1 t o j v, h.2) t o c k := by
  unfold updV ax_eval
  rw [ax_nb8 hc, hc]
  show (if k = j then Value.int v else .int (h.1 t o k)) = .int (ax_wI h.1 t o j v t o k)
  unfold ax_wI
  by_cases e : k = j
  · rw [if_pos e, if_pos ⟨rfl, rfl, e⟩]
  · rw [if_neg e, if_neg (fun z => e z.2.2)]
theorem ax_ev_L {ρ : Nat → Nat → Nat} {h : AH} {t o j : Nat} {v : Int64} (hj : j < ax_len h t o) (hv : ax_lE (ax_lhi v) (ax_llo v) = v) (k : Nat) (hk : k < ax_len h t o) : updV (ax_eval ρ h t o 8) j (.long v) k = ax_eval ρ (ax_wI (ax_wI h.1 t o j (ax_lhi v)) t o (ax_len h t o + j) (ax_llo v), h.2) t o 8 k := by
  have w1 : ∀ (f : Nat → Nat → Nat → Int32) (x : Nat) (y : Int32) (k' : Nat), ¬ k' = x → ax_wI f t o x y t o k' = f t o k' := fun f x y k' q => if_neg (fun z => q z.2.2)
  have w2 : ∀ (f : Nat → Nat → Nat → Int32) (x : Nat) (y : Int32), ax_wI f t o x y t o x = y := fun f x y => if_pos ⟨rfl, rfl, rfl⟩
  have e : ax_len ((ax_wI (ax_wI h.1 t o j (ax_lhi v)) t o (ax_len h t o + j) (ax_llo v), h.2) : AH) t o = ax_len h t o := ax_len_congr rfl
  unfold updV ax_eval
  rw [e]
  show (if k = j then Value.long v else .long (ax_lE (h.1 t o k) (h.1 t o (ax_len h t o + k)))) = .long (ax_lE (ax_wI (ax_wI h.1 t o j (ax_lhi v)) t o (ax_len h t o + j) (ax_llo v) t o k) (ax_wI (ax_wI h.1 t o j (ax_lhi v)) t o (ax_len h t o + j) (ax_llo v) t o (ax_len h t o + k)))
  by_cases z : k = j
  · subst z
    rw [if_pos rfl, w1 _ (ax_len h t o + k) _ k (by omega), w2, w2, hv]
  · rw [if_neg z, w1 _ (ax_len h t o + j) _ k (by omega), w1 _ (ax_len h t o + j) _ (ax_len h t o + k) (by omega), w1 _ j _ k z, w1 _ j _ (ax_len h t o + k) (by omega)]
theorem ax_ev_R {ρ : Nat → Nat → Nat} {h : AH} {t o j c : Nat} {r : AR} (h8 : Nat.beq c 8 = false) (hc : Nat.ble 3 c = true) (k : Nat) : updV (ax_eval ρ h t o c) j (ax_rv ρ r) k = ax_eval ρ (h.1, ax_wR h.2.1 t o j r, h.2.2) t o c k := by
  unfold updV ax_eval
  rw [h8, hc]
  show (if k = j then ax_rv ρ r else ax_rv ρ (h.2.1 t o k)) = ax_rv ρ (ax_wR h.2.1 t o j r t o k)
  unfold ax_wR
  by_cases e : k = j
  · rw [if_pos e, if_pos ⟨rfl, rfl, e⟩]
  · rw [if_neg e, if_neg (fun z => e z.2.2)]
