/-! the law: the calls in turn -/
abbrev lwF (pc n : Nat) : AF := (m_L_law, pc, [some (.inr (.inr (some (102, 0)))), some (.inr (.inr (some (0, 0)))), some (.inr (.inr (some (12, 0)))), some (.inl (n32 (6 * n)))], [])
theorem law_204 {d n L : Nat} {gi : GI} {g : AG} {Q : Option AV → AH → Prop} (hd : 70 ≤ d) (hn : n < 520) (hL : 6 * n + 6 ≤ L) (hL2 : L ≤ 3072) (hI : Inv n gi g) (hg : g.2.2.1 102 0 = L) (ih : ∀ gi' g', Inv (n + 1) gi' g' → g'.2.2.1 102 0 = L → Runs d (lwF 18 (n + 1)) (gi', g') Q) : Runs d (lwF 204 n) (gi, g) Q := by
  have hin : ∀ k, k ≤ 5 → ax_in (n32 (6 * n) + n32 k) (g.2.2.1 102 0) := fun k hk => by
    rw [n32_add, hg]
    exact n32_in (by omega) (by omega)
  unfold lwF
  rw [b_L_law_204]
  refine ⟨hin 1 (by omega), hin 2 (by omega), hin 3 (by omega), law_two (OpI_of (op_thing _ _ _)) hd hn hI (fun v gi1 g1 e1 e2 hM => ?_)⟩
  simp only [ax_psh_some]
  rw [b_L_law_223, e1, e2]
  refine ⟨hin 1 (by omega), hin 2 (by omega), hin 3 (by omega), hM _ (fun gi2 g2 e3 hI2 => ?_)⟩
  simp only [ax_psh_some]
  rw [b_L_law_242]
  refine ⟨fun _ => ?_, fun z => absurd rfl z⟩
  rw [b_L_law_1421, n32_add, show 6 * n + 6 = 6 * (n + 1) by omega]
  exact ih gi2 g2 hI2 (by rw [e3, hg])
theorem law_247 {d n L : Nat} {gi : GI} {g : AG} {Q : Option AV → AH → Prop} (hd : 70 ≤ d) (hn : n < 520) (hL : 6 * n + 6 ≤ L) (hL2 : L ≤ 3072) (hI : Inv n gi g) (hg : g.2.2.1 102 0 = L) (ih : ∀ gi' g', Inv (n + 1) gi' g' → g'.2.2.1 102 0 = L → Runs d (lwF 18 (n + 1)) (gi', g') Q) : Runs d (lwF 247 n) (gi, g) Q := by
  have hin : ∀ k, k ≤ 5 → ax_in (n32 (6 * n) + n32 k) (g.2.2.1 102 0) := fun k hk => by
    rw [n32_add, hg]
    exact n32_in (by omega) (by omega)
  unfold lwF
  rw [b_L_law_247]
  refine ⟨hin 1 (by omega), hin 2 (by omega), law_two (OpI_of (op_fact _ _)) hd hn hI (fun v gi1 g1 e1 e2 hM => ?_)⟩
  simp only [ax_psh_some]
  rw [b_L_law_261, e1, e2]
  refine ⟨hin 1 (by omega), hin 2 (by omega), hM _ (fun gi2 g2 e3 hI2 => ?_)⟩
  simp only [ax_psh_some]
  rw [b_L_law_275]
  refine ⟨fun _ => ?_, fun z => absurd rfl z⟩
  rw [b_L_law_1421, n32_add, show 6 * n + 6 = 6 * (n + 1) by omega]
  exact ih gi2 g2 hI2 (by rw [e3, hg])
theorem law_280 {d n L : Nat} {gi : GI} {g : AG} {Q : Option AV → AH → Prop} (hd : 70 ≤ d) (hn : n < 520) (hL : 6 * n + 6 ≤ L) (hL2 : L ≤ 3072) (hI : Inv n gi g) (hg : g.2.2.1 102 0 = L) (ih : ∀ gi' g', Inv (n + 1) gi' g' → g'.2.2.1 102 0 = L → Runs d (lwF 18 (n + 1)) (gi', g') Q) : Runs d (lwF 280 n) (gi, g) Q := by
  have hin : ∀ k, k ≤ 5 → ax_in (n32 (6 * n) + n32 k) (g.2.2.1 102 0) := fun k hk => by
    rw [n32_add, hg]
    exact n32_in (by omega) (by omega)
  unfold lwF
  rw [b_L_law_280]
  refine ⟨hin 1 (by omega), hin 2 (by omega), hin 3 (by omega), hin 4 (by omega), law_two (OpI_of (op_paint _ _ _ _)) hd hn hI (fun v gi1 g1 e1 e2 hM => ?_)⟩
  simp only [ax_psh_some]
  rw [b_L_law_304, e1, e2]
  refine ⟨hin 1 (by omega), hin 2 (by omega), hin 3 (by omega), hin 4 (by omega), hM _ (fun gi2 g2 e3 hI2 => ?_)⟩
  simp only [ax_psh_some]
  rw [b_L_law_328]
  refine ⟨fun _ => ?_, fun z => absurd rfl z⟩
  rw [b_L_law_1421, n32_add, show 6 * n + 6 = 6 * (n + 1) by omega]
  exact ih gi2 g2 hI2 (by rw [e3, hg])
theorem law_333 {d n L : Nat} {gi : GI} {g : AG} {Q : Option AV → AH → Prop} (hd : 70 ≤ d) (hn : n < 520) (hL : 6 * n + 6 ≤ L) (hL2 : L ≤ 3072) (hI : Inv n gi g) (hg : g.2.2.1 102 0 = L) (ih : ∀ gi' g', Inv (n + 1) gi' g' → g'.2.2.1 102 0 = L → Runs d (lwF 18 (n + 1)) (gi', g') Q) : Runs d (lwF 333 n) (gi, g) Q := by
  have hin : ∀ k, k ≤ 5 → ax_in (n32 (6 * n) + n32 k) (g.2.2.1 102 0) := fun k hk => by
    rw [n32_add, hg]
    exact n32_in (by omega) (by omega)
  unfold lwF
  rw [b_L_law_333]
  refine ⟨hin 1 (by omega), hin 2 (by omega), hin 3 (by omega), law_two (OpI_of (op_of _ _ _)) hd hn hI (fun v gi1 g1 e1 e2 hM => ?_)⟩
  simp only [ax_psh_some]
  rw [b_L_law_352, e1, e2]
  refine ⟨hin 1 (by omega), hin 2 (by omega), hin 3 (by omega), hM _ (fun gi2 g2 e3 hI2 => ?_)⟩
  simp only [ax_psh_some]
  rw [b_L_law_371]
  refine ⟨fun _ => ?_, fun z => absurd rfl z⟩
  rw [b_L_law_1421, n32_add, show 6 * n + 6 = 6 * (n + 1) by omega]
  exact ih gi2 g2 hI2 (by rw [e3, hg])
theorem law_376 {d n L : Nat} {gi : GI} {g : AG} {Q : Option AV → AH → Prop} (hd : 70 ≤ d) (hn : n < 520) (hL : 6 * n + 6 ≤ L) (hL2 : L ≤ 3072) (hI : Inv n gi g) (hg : g.2.2.1 102 0 = L) (ih : ∀ gi' g', Inv (n + 1) gi' g' → g'.2.2.1 102 0 = L → Runs d (lwF 18 (n + 1)) (gi', g') Q) : Runs d (lwF 376 n) (gi, g) Q := by
  have hin : ∀ k, k ≤ 5 → ax_in (n32 (6 * n) + n32 k) (g.2.2.1 102 0) := fun k hk => by
    rw [n32_add, hg]
    exact n32_in (by omega) (by omega)
  unfold lwF
  rw [b_L_law_376]
  refine ⟨hin 1 (by omega), hin 2 (by omega), hin 3 (by omega), hin 4 (by omega), law_two (OpI_of (op_hole _ _ _ _)) hd hn hI (fun v gi1 g1 e1 e2 hM => ?_)⟩
  simp only [ax_psh_some]
  rw [b_L_law_400, e1, e2]
  refine ⟨hin 1 (by omega), hin 2 (by omega), hin 3 (by omega), hin 4 (by omega), hM _ (fun gi2 g2 e3 hI2 => ?_)⟩
  simp only [ax_psh_some]
  rw [b_L_law_424]
  refine ⟨fun _ => ?_, fun z => absurd rfl z⟩
  rw [b_L_law_1421, n32_add, show 6 * n + 6 = 6 * (n + 1) by omega]
  exact ih gi2 g2 hI2 (by rw [e3, hg])
theorem law_429 {d n L : Nat} {gi : GI} {g : AG} {Q : Option AV → AH → Prop} (hd : 70 ≤ d) (hn : n < 520) (hL : 6 * n + 6 ≤ L) (hL2 : L ≤ 3072) (hI : Inv n gi g) (hg : g.2.2.1 102 0 = L) (ih : ∀ gi' g', Inv (n + 1) gi' g' → g'.2.2.1 102 0 = L → Runs d (lwF 18 (n + 1)) (gi', g') Q) : Runs d (lwF 429 n) (gi, g) Q := by
  have hin : ∀ k, k ≤ 5 → ax_in (n32 (6 * n) + n32 k) (g.2.2.1 102 0) := fun k hk => by
    rw [n32_add, hg]
    exact n32_in (by omega) (by omega)
  unfold lwF
  rw [b_L_law_429]
  refine ⟨hin 1 (by omega), hin 2 (by omega), law_two (OpI_of (op_terms _ _)) hd hn hI (fun v gi1 g1 e1 e2 hM => ?_)⟩
  simp only [ax_psh_some]
  rw [b_L_law_443, e1, e2]
  refine ⟨hin 1 (by omega), hin 2 (by omega), hM _ (fun gi2 g2 e3 hI2 => ?_)⟩
  simp only [ax_psh_some]
  rw [b_L_law_457]
  refine ⟨fun _ => ?_, fun z => absurd rfl z⟩
  rw [b_L_law_1421, n32_add, show 6 * n + 6 = 6 * (n + 1) by omega]
  exact ih gi2 g2 hI2 (by rw [e3, hg])
theorem law_462 {d n L : Nat} {gi : GI} {g : AG} {Q : Option AV → AH → Prop} (hd : 70 ≤ d) (hn : n < 520) (hL : 6 * n + 6 ≤ L) (hL2 : L ≤ 3072) (hI : Inv n gi g) (hg : g.2.2.1 102 0 = L) (ih : ∀ gi' g', Inv (n + 1) gi' g' → g'.2.2.1 102 0 = L → Runs d (lwF 18 (n + 1)) (gi', g') Q) : Runs d (lwF 462 n) (gi, g) Q := by
  have hin : ∀ k, k ≤ 5 → ax_in (n32 (6 * n) + n32 k) (g.2.2.1 102 0) := fun k hk => by
    rw [n32_add, hg]
    exact n32_in (by omega) (by omega)
  unfold lwF
  rw [b_L_law_462]
  refine ⟨hin 1 (by omega), hin 2 (by omega), hin 3 (by omega), hin 4 (by omega), hin 5 (by omega), law_two (OpI_of (op_feed _ _ _ _ _)) hd hn hI (fun v gi1 g1 e1 e2 hM => ?_)⟩
  simp only [ax_psh_some]
  rw [b_L_law_491, e1, e2]
  refine ⟨hin 1 (by omega), hin 2 (by omega), hin 3 (by omega), hin 4 (by omega), hin 5 (by omega), hM _ (fun gi2 g2 e3 hI2 => ?_)⟩
  simp only [ax_psh_some]
  rw [b_L_law_520]
  refine ⟨fun _ => ?_, fun z => absurd rfl z⟩
  rw [b_L_law_1421, n32_add, show 6 * n + 6 = 6 * (n + 1) by omega]
  exact ih gi2 g2 hI2 (by rw [e3, hg])
theorem law_525 {d n L : Nat} {gi : GI} {g : AG} {Q : Option AV → AH → Prop} (hd : 70 ≤ d) (hn : n < 520) (hL : 6 * n + 6 ≤ L) (hL2 : L ≤ 3072) (hI : Inv n gi g) (hg : g.2.2.1 102 0 = L) (ih : ∀ gi' g', Inv (n + 1) gi' g' → g'.2.2.1 102 0 = L → Runs d (lwF 18 (n + 1)) (gi', g') Q) : Runs d (lwF 525 n) (gi, g) Q := by
  have hin : ∀ k, k ≤ 5 → ax_in (n32 (6 * n) + n32 k) (g.2.2.1 102 0) := fun k hk => by
    rw [n32_add, hg]
    exact n32_in (by omega) (by omega)
  unfold lwF
  rw [b_L_law_525]
  refine ⟨hin 1 (by omega), law_two (OpI_of (op_endn _)) hd hn hI (fun v gi1 g1 e1 e2 hM => ?_)⟩
  simp only [ax_psh_some]
  rw [b_L_law_534, e1, e2]
  refine ⟨hin 1 (by omega), hM _ (fun gi2 g2 e3 hI2 => ?_)⟩
  simp only [ax_psh_some]
  rw [b_L_law_543]
  refine ⟨fun _ => ?_, fun z => absurd rfl z⟩
  rw [b_L_law_1421, n32_add, show 6 * n + 6 = 6 * (n + 1) by omega]
  exact ih gi2 g2 hI2 (by rw [e3, hg])
theorem law_548 {d n L : Nat} {gi : GI} {g : AG} {Q : Option AV → AH → Prop} (hd : 70 ≤ d) (hn : n < 520) (hL : 6 * n + 6 ≤ L) (hL2 : L ≤ 3072) (hI : Inv n gi g) (hg : g.2.2.1 102 0 = L) (ih : ∀ gi' g', Inv (n + 1) gi' g' → g'.2.2.1 102 0 = L → Runs d (lwF 18 (n + 1)) (gi', g') Q) : Runs d (lwF 548 n) (gi, g) Q := by
  have hin : ∀ k, k ≤ 5 → ax_in (n32 (6 * n) + n32 k) (g.2.2.1 102 0) := fun k hk => by
    rw [n32_add, hg]
    exact n32_in (by omega) (by omega)
  unfold lwF
  rw [b_L_law_548]
  refine law_two (OpI_of op_row) hd hn hI (fun v gi1 g1 e1 e2 hM => ?_)
  simp only [ax_psh_some]
  rw [b_L_law_552]
  refine hM _ (fun gi2 g2 e3 hI2 => ?_)
  simp only [ax_psh_some]
  rw [b_L_law_556]
  refine ⟨fun _ => ?_, fun z => absurd rfl z⟩
  rw [b_L_law_1421, n32_add, show 6 * n + 6 = 6 * (n + 1) by omega]
  exact ih gi2 g2 hI2 (by rw [e3, hg])
theorem law_561 {d n L : Nat} {gi : GI} {g : AG} {Q : Option AV → AH → Prop} (hd : 70 ≤ d) (hn : n < 520) (hL : 6 * n + 6 ≤ L) (hL2 : L ≤ 3072) (hI : Inv n gi g) (hg : g.2.2.1 102 0 = L) (ih : ∀ gi' g', Inv (n + 1) gi' g' → g'.2.2.1 102 0 = L → Runs d (lwF 18 (n + 1)) (gi', g') Q) : Runs d (lwF 561 n) (gi, g) Q := by
  have hin : ∀ k, k ≤ 5 → ax_in (n32 (6 * n) + n32 k) (g.2.2.1 102 0) := fun k hk => by
    rw [n32_add, hg]
    exact n32_in (by omega) (by omega)
  unfold lwF
  rw [b_L_law_561]
  refine law_two (OpI_of op_flakes) hd hn hI (fun v gi1 g1 e1 e2 hM => ?_)
  simp only [ax_psh_some]
  rw [b_L_law_565]
  refine hM _ (fun gi2 g2 e3 hI2 => ?_)
  simp only [ax_psh_some]
  rw [b_L_law_569]
  refine ⟨fun _ => ?_, fun z => absurd rfl z⟩
  rw [b_L_law_1421, n32_add, show 6 * n + 6 = 6 * (n + 1) by omega]
  exact ih gi2 g2 hI2 (by rw [e3, hg])
theorem law_574 {d n L : Nat} {gi : GI} {g : AG} {Q : Option AV → AH → Prop} (hd : 70 ≤ d) (hn : n < 520) (hL : 6 * n + 6 ≤ L) (hL2 : L ≤ 3072) (hI : Inv n gi g) (hg : g.2.2.1 102 0 = L) (ih : ∀ gi' g', Inv (n + 1) gi' g' → g'.2.2.1 102 0 = L → Runs d (lwF 18 (n + 1)) (gi', g') Q) : Runs d (lwF 574 n) (gi, g) Q := by
  have hin : ∀ k, k ≤ 5 → ax_in (n32 (6 * n) + n32 k) (g.2.2.1 102 0) := fun k hk => by
    rw [n32_add, hg]
    exact n32_in (by omega) (by omega)
  unfold lwF
  rw [b_L_law_574]
  refine law_two (OpI_of op_law) hd hn hI (fun v gi1 g1 e1 e2 hM => ?_)
  simp only [ax_psh_some]
  rw [b_L_law_578]
  refine hM _ (fun gi2 g2 e3 hI2 => ?_)
  simp only [ax_psh_some]
  rw [b_L_law_582]
  refine ⟨fun _ => ?_, fun z => absurd rfl z⟩
  rw [b_L_law_1421, n32_add, show 6 * n + 6 = 6 * (n + 1) by omega]
  exact ih gi2 g2 hI2 (by rw [e3, hg])
theorem law_587 {d n L : Nat} {gi : GI} {g : AG} {Q : Option AV → AH → Prop} (hd : 70 ≤ d) (hn : n < 520) (hL : 6 * n + 6 ≤ L) (hL2 : L ≤ 3072) (hI : Inv n gi g) (hg : g.2.2.1 102 0 = L) (ih : ∀ gi' g', Inv (n + 1) gi' g' → g'.2.2.1 102 0 = L → Runs d (lwF 18 (n + 1)) (gi', g') Q) : Runs d (lwF 587 n) (gi, g) Q := by
  have hin : ∀ k, k ≤ 5 → ax_in (n32 (6 * n) + n32 k) (g.2.2.1 102 0) := fun k hk => by
    rw [n32_add, hg]
    exact n32_in (by omega) (by omega)
  unfold lwF
  rw [b_L_law_587]
  refine law_two (OpI_of op_fault) hd hn hI (fun v gi1 g1 e1 e2 hM => ?_)
  simp only [ax_psh_some]
  rw [b_L_law_591]
  refine hM _ (fun gi2 g2 e3 hI2 => ?_)
  simp only [ax_psh_some]
  rw [b_L_law_595]
  refine ⟨fun _ => ?_, fun z => absurd rfl z⟩
  rw [b_L_law_1421, n32_add, show 6 * n + 6 = 6 * (n + 1) by omega]
  exact ih gi2 g2 hI2 (by rw [e3, hg])
theorem law_600 {d n L : Nat} {gi : GI} {g : AG} {Q : Option AV → AH → Prop} (hd : 70 ≤ d) (hn : n < 520) (hL : 6 * n + 6 ≤ L) (hL2 : L ≤ 3072) (hI : Inv n gi g) (hg : g.2.2.1 102 0 = L) (ih : ∀ gi' g', Inv (n + 1) gi' g' → g'.2.2.1 102 0 = L → Runs d (lwF 18 (n + 1)) (gi', g') Q) : Runs d (lwF 600 n) (gi, g) Q := by
  have hin : ∀ k, k ≤ 5 → ax_in (n32 (6 * n) + n32 k) (g.2.2.1 102 0) := fun k hk => by
    rw [n32_add, hg]
    exact n32_in (by omega) (by omega)
  unfold lwF
  rw [b_L_law_600]
  refine ⟨hin 1 (by omega), law_two (OpI_of (op_force _)) hd hn hI (fun v gi1 g1 e1 e2 hM => ?_)⟩
  simp only [ax_psh_some]
  rw [b_L_law_609, e1, e2]
  refine ⟨hin 1 (by omega), hM _ (fun gi2 g2 e3 hI2 => ?_)⟩
  simp only [ax_psh_some]
  rw [b_L_law_618]
  refine ⟨fun _ => ?_, fun z => absurd rfl z⟩
  rw [b_L_law_1421, n32_add, show 6 * n + 6 = 6 * (n + 1) by omega]
  exact ih gi2 g2 hI2 (by rw [e3, hg])
theorem law_623 {d n L : Nat} {gi : GI} {g : AG} {Q : Option AV → AH → Prop} (hd : 70 ≤ d) (hn : n < 520) (hL : 6 * n + 6 ≤ L) (hL2 : L ≤ 3072) (hI : Inv n gi g) (hg : g.2.2.1 102 0 = L) (ih : ∀ gi' g', Inv (n + 1) gi' g' → g'.2.2.1 102 0 = L → Runs d (lwF 18 (n + 1)) (gi', g') Q) : Runs d (lwF 623 n) (gi, g) Q := by
  have hin : ∀ k, k ≤ 5 → ax_in (n32 (6 * n) + n32 k) (g.2.2.1 102 0) := fun k hk => by
    rw [n32_add, hg]
    exact n32_in (by omega) (by omega)
  unfold lwF
  rw [b_L_law_623]
  refine ⟨hin 1 (by omega), hin 2 (by omega), law_two (OpI_of (op_off _ _)) hd hn hI (fun v gi1 g1 e1 e2 hM => ?_)⟩
  simp only [ax_psh_some]
  rw [b_L_law_637, e1, e2]
  refine ⟨hin 1 (by omega), hin 2 (by omega), hM _ (fun gi2 g2 e3 hI2 => ?_)⟩
  simp only [ax_psh_some]
  rw [b_L_law_651]
  refine ⟨fun _ => ?_, fun z => absurd rfl z⟩
  rw [b_L_law_1421, n32_add, show 6 * n + 6 = 6 * (n + 1) by omega]
  exact ih gi2 g2 hI2 (by rw [e3, hg])
theorem law_656 {d n L : Nat} {gi : GI} {g : AG} {Q : Option AV → AH → Prop} (hd : 70 ≤ d) (hn : n < 520) (hL : 6 * n + 6 ≤ L) (hL2 : L ≤ 3072) (hI : Inv n gi g) (hg : g.2.2.1 102 0 = L) (ih : ∀ gi' g', Inv (n + 1) gi' g' → g'.2.2.1 102 0 = L → Runs d (lwF 18 (n + 1)) (gi', g') Q) : Runs d (lwF 656 n) (gi, g) Q := by
  have hin : ∀ k, k ≤ 5 → ax_in (n32 (6 * n) + n32 k) (g.2.2.1 102 0) := fun k hk => by
    rw [n32_add, hg]
    exact n32_in (by omega) (by omega)
  unfold lwF
  rw [b_L_law_656]
  refine ⟨hin 1 (by omega), law_two (OpI_of (op_has _)) hd hn hI (fun v gi1 g1 e1 e2 hM => ?_)⟩
  simp only [ax_psh_some]
  rw [b_L_law_665, e1, e2]
  refine ⟨hin 1 (by omega), hM _ (fun gi2 g2 e3 hI2 => ?_)⟩
  simp only [ax_psh_some]
  rw [b_L_law_674]
  refine ⟨fun _ => ?_, fun z => absurd rfl z⟩
  rw [b_L_law_1421, n32_add, show 6 * n + 6 = 6 * (n + 1) by omega]
  exact ih gi2 g2 hI2 (by rw [e3, hg])
theorem law_679 {d n L : Nat} {gi : GI} {g : AG} {Q : Option AV → AH → Prop} (hd : 70 ≤ d) (hn : n < 520) (hL : 6 * n + 6 ≤ L) (hL2 : L ≤ 3072) (hI : Inv n gi g) (hg : g.2.2.1 102 0 = L) (ih : ∀ gi' g', Inv (n + 1) gi' g' → g'.2.2.1 102 0 = L → Runs d (lwF 18 (n + 1)) (gi', g') Q) : Runs d (lwF 679 n) (gi, g) Q := by
  have hin : ∀ k, k ≤ 5 → ax_in (n32 (6 * n) + n32 k) (g.2.2.1 102 0) := fun k hk => by
    rw [n32_add, hg]
    exact n32_in (by omega) (by omega)
  unfold lwF
  rw [b_L_law_679]
  refine ⟨hin 1 (by omega), hin 2 (by omega), law_two (OpI_of (op_tax _ _)) hd hn hI (fun v gi1 g1 e1 e2 hM => ?_)⟩
  simp only [ax_psh_some]
  rw [b_L_law_693, e1, e2]
  refine ⟨hin 1 (by omega), hin 2 (by omega), hM _ (fun gi2 g2 e3 hI2 => ?_)⟩
  simp only [ax_psh_some]
  rw [b_L_law_707]
  refine ⟨fun _ => ?_, fun z => absurd rfl z⟩
  rw [b_L_law_1421, n32_add, show 6 * n + 6 = 6 * (n + 1) by omega]
  exact ih gi2 g2 hI2 (by rw [e3, hg])
theorem law_712 {d n L : Nat} {gi : GI} {g : AG} {Q : Option AV → AH → Prop} (hd : 70 ≤ d) (hn : n < 520) (hL : 6 * n + 6 ≤ L) (hL2 : L ≤ 3072) (hI : Inv n gi g) (hg : g.2.2.1 102 0 = L) (ih : ∀ gi' g', Inv (n + 1) gi' g' → g'.2.2.1 102 0 = L → Runs d (lwF 18 (n + 1)) (gi', g') Q) : Runs d (lwF 712 n) (gi, g) Q := by
  have hin : ∀ k, k ≤ 5 → ax_in (n32 (6 * n) + n32 k) (g.2.2.1 102 0) := fun k hk => by
    rw [n32_add, hg]
    exact n32_in (by omega) (by omega)
  unfold lwF
  rw [b_L_law_712]
  refine ⟨hin 1 (by omega), law_two (OpI_of (op_owes _)) hd hn hI (fun v gi1 g1 e1 e2 hM => ?_)⟩
  simp only [ax_psh_some]
  rw [b_L_law_721, e1, e2]
  refine ⟨hin 1 (by omega), hM _ (fun gi2 g2 e3 hI2 => ?_)⟩
  simp only [ax_psh_some]
  rw [b_L_law_730]
  refine ⟨fun _ => ?_, fun z => absurd rfl z⟩
  rw [b_L_law_1421, n32_add, show 6 * n + 6 = 6 * (n + 1) by omega]
  exact ih gi2 g2 hI2 (by rw [e3, hg])
theorem law_735 {d n L : Nat} {gi : GI} {g : AG} {Q : Option AV → AH → Prop} (hd : 70 ≤ d) (hn : n < 520) (hL : 6 * n + 6 ≤ L) (hL2 : L ≤ 3072) (hI : Inv n gi g) (hg : g.2.2.1 102 0 = L) (ih : ∀ gi' g', Inv (n + 1) gi' g' → g'.2.2.1 102 0 = L → Runs d (lwF 18 (n + 1)) (gi', g') Q) : Runs d (lwF 735 n) (gi, g) Q := by
  have hin : ∀ k, k ≤ 5 → ax_in (n32 (6 * n) + n32 k) (g.2.2.1 102 0) := fun k hk => by
    rw [n32_add, hg]
    exact n32_in (by omega) (by omega)
  unfold lwF
  rw [b_L_law_735]
  refine ⟨hin 1 (by omega), law_two (OpI_of (op_owner _)) hd hn hI (fun v gi1 g1 e1 e2 hM => ?_)⟩
  simp only [ax_psh_some]
  rw [b_L_law_744, e1, e2]
  refine ⟨hin 1 (by omega), hM _ (fun gi2 g2 e3 hI2 => ?_)⟩
  simp only [ax_psh_some]
  rw [b_L_law_753]
  refine ⟨fun _ => ?_, fun z => absurd rfl z⟩
  rw [b_L_law_1421, n32_add, show 6 * n + 6 = 6 * (n + 1) by omega]
  exact ih gi2 g2 hI2 (by rw [e3, hg])
theorem law_758 {d n L : Nat} {gi : GI} {g : AG} {Q : Option AV → AH → Prop} (hd : 70 ≤ d) (hn : n < 520) (hL : 6 * n + 6 ≤ L) (hL2 : L ≤ 3072) (hI : Inv n gi g) (hg : g.2.2.1 102 0 = L) (ih : ∀ gi' g', Inv (n + 1) gi' g' → g'.2.2.1 102 0 = L → Runs d (lwF 18 (n + 1)) (gi', g') Q) : Runs d (lwF 758 n) (gi, g) Q := by
  have hin : ∀ k, k ≤ 5 → ax_in (n32 (6 * n) + n32 k) (g.2.2.1 102 0) := fun k hk => by
    rw [n32_add, hg]
    exact n32_in (by omega) (by omega)
  unfold lwF
  rw [b_L_law_758]
  refine ⟨hin 1 (by omega), law_two (OpI_of (op_brings _)) hd hn hI (fun v gi1 g1 e1 e2 hM => ?_)⟩
  simp only [ax_psh_some]
  rw [b_L_law_767, e1, e2]
  refine ⟨hin 1 (by omega), hM _ (fun gi2 g2 e3 hI2 => ?_)⟩
  simp only [ax_psh_some]
  rw [b_L_law_776]
  refine ⟨fun _ => ?_, fun z => absurd rfl z⟩
  rw [b_L_law_1421, n32_add, show 6 * n + 6 = 6 * (n + 1) by omega]
  exact ih gi2 g2 hI2 (by rw [e3, hg])
theorem law_781 {d n L : Nat} {gi : GI} {g : AG} {Q : Option AV → AH → Prop} (hd : 70 ≤ d) (hn : n < 520) (hL : 6 * n + 6 ≤ L) (hL2 : L ≤ 3072) (hI : Inv n gi g) (hg : g.2.2.1 102 0 = L) (ih : ∀ gi' g', Inv (n + 1) gi' g' → g'.2.2.1 102 0 = L → Runs d (lwF 18 (n + 1)) (gi', g') Q) : Runs d (lwF 781 n) (gi, g) Q := by
  have hin : ∀ k, k ≤ 5 → ax_in (n32 (6 * n) + n32 k) (g.2.2.1 102 0) := fun k hk => by
    rw [n32_add, hg]
    exact n32_in (by omega) (by omega)
  unfold lwF
  rw [b_L_law_781]
  refine law_two (OpI_of op_dearest) hd hn hI (fun v gi1 g1 e1 e2 hM => ?_)
  simp only [ax_psh_some]
  rw [b_L_law_785]
  refine hM _ (fun gi2 g2 e3 hI2 => ?_)
  simp only [ax_psh_some]
  rw [b_L_law_789]
  refine ⟨fun _ => ?_, fun z => absurd rfl z⟩
  rw [b_L_law_1421, n32_add, show 6 * n + 6 = 6 * (n + 1) by omega]
  exact ih gi2 g2 hI2 (by rw [e3, hg])
theorem law_794 {d n L : Nat} {gi : GI} {g : AG} {Q : Option AV → AH → Prop} (hd : 70 ≤ d) (hn : n < 520) (hL : 6 * n + 6 ≤ L) (hL2 : L ≤ 3072) (hI : Inv n gi g) (hg : g.2.2.1 102 0 = L) (ih : ∀ gi' g', Inv (n + 1) gi' g' → g'.2.2.1 102 0 = L → Runs d (lwF 18 (n + 1)) (gi', g') Q) : Runs d (lwF 794 n) (gi, g) Q := by
  have hin : ∀ k, k ≤ 5 → ax_in (n32 (6 * n) + n32 k) (g.2.2.1 102 0) := fun k hk => by
    rw [n32_add, hg]
    exact n32_in (by omega) (by omega)
  unfold lwF
  rw [b_L_law_794]
  refine ⟨hin 1 (by omega), hin 2 (by omega), law_two (OpI_of (op_quite _ _)) hd hn hI (fun v gi1 g1 e1 e2 hM => ?_)⟩
  simp only [ax_psh_some]
  rw [b_L_law_808, e1, e2]
  refine ⟨hin 1 (by omega), hin 2 (by omega), hM _ (fun gi2 g2 e3 hI2 => ?_)⟩
  simp only [ax_psh_some]
  rw [b_L_law_822]
  refine ⟨fun _ => ?_, fun z => absurd rfl z⟩
  rw [b_L_law_1421, n32_add, show 6 * n + 6 = 6 * (n + 1) by omega]
  exact ih gi2 g2 hI2 (by rw [e3, hg])
theorem law_827 {d n L : Nat} {gi : GI} {g : AG} {Q : Option AV → AH → Prop} (hd : 70 ≤ d) (hn : n < 520) (hL : 6 * n + 6 ≤ L) (hL2 : L ≤ 3072) (hI : Inv n gi g) (hg : g.2.2.1 102 0 = L) (ih : ∀ gi' g', Inv (n + 1) gi' g' → g'.2.2.1 102 0 = L → Runs d (lwF 18 (n + 1)) (gi', g') Q) : Runs d (lwF 827 n) (gi, g) Q := by
  have hin : ∀ k, k ≤ 5 → ax_in (n32 (6 * n) + n32 k) (g.2.2.1 102 0) := fun k hk => by
    rw [n32_add, hg]
    exact n32_in (by omega) (by omega)
  unfold lwF
  rw [b_L_law_827]
  refine ⟨hin 1 (by omega), hin 2 (by omega), hin 3 (by omega), hin 4 (by omega), law_two (OpI_of (op_quiteAt _ _ _ _)) hd hn hI (fun v gi1 g1 e1 e2 hM => ?_)⟩
  simp only [ax_psh_some]
  rw [b_L_law_851, e1, e2]
  refine ⟨hin 1 (by omega), hin 2 (by omega), hin 3 (by omega), hin 4 (by omega), hM _ (fun gi2 g2 e3 hI2 => ?_)⟩
  simp only [ax_psh_some]
  rw [b_L_law_875]
  refine ⟨fun _ => ?_, fun z => absurd rfl z⟩
  rw [b_L_law_1421, n32_add, show 6 * n + 6 = 6 * (n + 1) by omega]
  exact ih gi2 g2 hI2 (by rw [e3, hg])
theorem law_880 {d n L : Nat} {gi : GI} {g : AG} {Q : Option AV → AH → Prop} (hd : 70 ≤ d) (hn : n < 520) (hL : 6 * n + 6 ≤ L) (hL2 : L ≤ 3072) (hI : Inv n gi g) (hg : g.2.2.1 102 0 = L) (ih : ∀ gi' g', Inv (n + 1) gi' g' → g'.2.2.1 102 0 = L → Runs d (lwF 18 (n + 1)) (gi', g') Q) : Runs d (lwF 880 n) (gi, g) Q := by
  have hin : ∀ k, k ≤ 5 → ax_in (n32 (6 * n) + n32 k) (g.2.2.1 102 0) := fun k hk => by
    rw [n32_add, hg]
    exact n32_in (by omega) (by omega)
  unfold lwF
  rw [b_L_law_880]
  refine ⟨hin 1 (by omega), hin 2 (by omega), hin 3 (by omega), law_two (oi_free _ _ _) hd hn hI (fun v gi1 g1 e1 e2 hM => ?_)⟩
  simp only [ax_psh_some]
  rw [b_L_law_899, e1, e2]
  refine ⟨hin 1 (by omega), hin 2 (by omega), hin 3 (by omega), hM _ (fun gi2 g2 e3 hI2 => ?_)⟩
  simp only [ax_psh_some]
  rw [b_L_law_918]
  refine ⟨fun _ => ?_, fun z => absurd rfl z⟩
  rw [b_L_law_1421, n32_add, show 6 * n + 6 = 6 * (n + 1) by omega]
  exact ih gi2 g2 hI2 (by rw [e3, hg])
theorem law_923 {d n L : Nat} {gi : GI} {g : AG} {Q : Option AV → AH → Prop} (hd : 70 ≤ d) (hn : n < 520) (hL : 6 * n + 6 ≤ L) (hL2 : L ≤ 3072) (hI : Inv n gi g) (hg : g.2.2.1 102 0 = L) (ih : ∀ gi' g', Inv (n + 1) gi' g' → g'.2.2.1 102 0 = L → Runs d (lwF 18 (n + 1)) (gi', g') Q) : Runs d (lwF 923 n) (gi, g) Q := by
  have hin : ∀ k, k ≤ 5 → ax_in (n32 (6 * n) + n32 k) (g.2.2.1 102 0) := fun k hk => by
    rw [n32_add, hg]
    exact n32_in (by omega) (by omega)
  unfold lwF
  rw [b_L_law_923]
  refine ⟨hin 1 (by omega), hin 2 (by omega), hin 3 (by omega), hin 4 (by omega), law_two (OpI_of (op_form _ _ _ _)) hd hn hI (fun v gi1 g1 e1 e2 hM => ?_)⟩
  simp only [ax_psh_some]
  rw [b_L_law_947, e1, e2]
  refine ⟨hin 1 (by omega), hin 2 (by omega), hin 3 (by omega), hin 4 (by omega), hM _ (fun gi2 g2 e3 hI2 => ?_)⟩
  simp only [ax_psh_some]
  rw [b_L_law_971]
  refine ⟨fun _ => ?_, fun z => absurd rfl z⟩
  rw [b_L_law_1421, n32_add, show 6 * n + 6 = 6 * (n + 1) by omega]
  exact ih gi2 g2 hI2 (by rw [e3, hg])
theorem law_976 {d n L : Nat} {gi : GI} {g : AG} {Q : Option AV → AH → Prop} (hd : 70 ≤ d) (hn : n < 520) (hL : 6 * n + 6 ≤ L) (hL2 : L ≤ 3072) (hI : Inv n gi g) (hg : g.2.2.1 102 0 = L) (ih : ∀ gi' g', Inv (n + 1) gi' g' → g'.2.2.1 102 0 = L → Runs d (lwF 18 (n + 1)) (gi', g') Q) : Runs d (lwF 976 n) (gi, g) Q := by
  have hin : ∀ k, k ≤ 5 → ax_in (n32 (6 * n) + n32 k) (g.2.2.1 102 0) := fun k hk => by
    rw [n32_add, hg]
    exact n32_in (by omega) (by omega)
  unfold lwF
  rw [b_L_law_976]
  refine ⟨hin 1 (by omega), law_two (OpI_of (op_order _)) hd hn hI (fun v gi1 g1 e1 e2 hM => ?_)⟩
  simp only [ax_psh_some]
  rw [b_L_law_985, e1, e2]
  refine ⟨hin 1 (by omega), hM _ (fun gi2 g2 e3 hI2 => ?_)⟩
  simp only [ax_psh_some]
  rw [b_L_law_994]
  refine ⟨fun _ => ?_, fun z => absurd rfl z⟩
  rw [b_L_law_1421, n32_add, show 6 * n + 6 = 6 * (n + 1) by omega]
  exact ih gi2 g2 hI2 (by rw [e3, hg])
theorem law_999 {d n L : Nat} {gi : GI} {g : AG} {Q : Option AV → AH → Prop} (hd : 70 ≤ d) (hn : n < 520) (hL : 6 * n + 6 ≤ L) (hL2 : L ≤ 3072) (hI : Inv n gi g) (hg : g.2.2.1 102 0 = L) (ih : ∀ gi' g', Inv (n + 1) gi' g' → g'.2.2.1 102 0 = L → Runs d (lwF 18 (n + 1)) (gi', g') Q) : Runs d (lwF 999 n) (gi, g) Q := by
  have hin : ∀ k, k ≤ 5 → ax_in (n32 (6 * n) + n32 k) (g.2.2.1 102 0) := fun k hk => by
    rw [n32_add, hg]
    exact n32_in (by omega) (by omega)
  unfold lwF
  rw [b_L_law_999]
  refine ⟨hin 1 (by omega), hin 2 (by omega), law_two (OpI_of (op_forms _ _)) hd hn hI (fun v gi1 g1 e1 e2 hM => ?_)⟩
  simp only [ax_psh_some]
  rw [b_L_law_1013, e1, e2]
  refine ⟨hin 1 (by omega), hin 2 (by omega), hM _ (fun gi2 g2 e3 hI2 => ?_)⟩
  simp only [ax_psh_some]
  rw [b_L_law_1027]
  refine ⟨fun _ => ?_, fun z => absurd rfl z⟩
  rw [b_L_law_1421, n32_add, show 6 * n + 6 = 6 * (n + 1) by omega]
  exact ih gi2 g2 hI2 (by rw [e3, hg])
theorem law_1032 {d n L : Nat} {gi : GI} {g : AG} {Q : Option AV → AH → Prop} (hd : 70 ≤ d) (hn : n < 520) (hL : 6 * n + 6 ≤ L) (hL2 : L ≤ 3072) (hI : Inv n gi g) (hg : g.2.2.1 102 0 = L) (ih : ∀ gi' g', Inv (n + 1) gi' g' → g'.2.2.1 102 0 = L → Runs d (lwF 18 (n + 1)) (gi', g') Q) : Runs d (lwF 1032 n) (gi, g) Q := by
  have hin : ∀ k, k ≤ 5 → ax_in (n32 (6 * n) + n32 k) (g.2.2.1 102 0) := fun k hk => by
    rw [n32_add, hg]
    exact n32_in (by omega) (by omega)
  unfold lwF
  rw [b_L_law_1032]
  refine ⟨hin 1 (by omega), hin 2 (by omega), hin 3 (by omega), law_two (oi_fills _ _ _) hd hn hI (fun v gi1 g1 e1 e2 hM => ?_)⟩
  simp only [ax_psh_some]
  rw [b_L_law_1051, e1, e2]
  refine ⟨hin 1 (by omega), hin 2 (by omega), hin 3 (by omega), hM _ (fun gi2 g2 e3 hI2 => ?_)⟩
  simp only [ax_psh_some]
  rw [b_L_law_1070]
  refine ⟨fun _ => ?_, fun z => absurd rfl z⟩
  rw [b_L_law_1421, n32_add, show 6 * n + 6 = 6 * (n + 1) by omega]
  exact ih gi2 g2 hI2 (by rw [e3, hg])
theorem law_1075 {d n L : Nat} {gi : GI} {g : AG} {Q : Option AV → AH → Prop} (hd : 70 ≤ d) (hn : n < 520) (hL : 6 * n + 6 ≤ L) (hL2 : L ≤ 3072) (hI : Inv n gi g) (hg : g.2.2.1 102 0 = L) (ih : ∀ gi' g', Inv (n + 1) gi' g' → g'.2.2.1 102 0 = L → Runs d (lwF 18 (n + 1)) (gi', g') Q) : Runs d (lwF 1075 n) (gi, g) Q := by
  have hin : ∀ k, k ≤ 5 → ax_in (n32 (6 * n) + n32 k) (g.2.2.1 102 0) := fun k hk => by
    rw [n32_add, hg]
    exact n32_in (by omega) (by omega)
  unfold lwF
  rw [b_L_law_1075]
  refine ⟨hin 1 (by omega), hin 2 (by omega), hin 3 (by omega), hin 4 (by omega), hin 5 (by omega), law_two (oi_sure _ _ _ _ _) hd hn hI (fun v gi1 g1 e1 e2 hM => ?_)⟩
  simp only [ax_psh_some]
  rw [b_L_law_1104, e1, e2]
  refine ⟨hin 1 (by omega), hin 2 (by omega), hin 3 (by omega), hin 4 (by omega), hin 5 (by omega), hM _ (fun gi2 g2 e3 hI2 => ?_)⟩
  simp only [ax_psh_some]
  rw [b_L_law_1133]
  refine ⟨fun _ => ?_, fun z => absurd rfl z⟩
  rw [b_L_law_1421, n32_add, show 6 * n + 6 = 6 * (n + 1) by omega]
  exact ih gi2 g2 hI2 (by rw [e3, hg])
theorem law_1138 {d n L : Nat} {gi : GI} {g : AG} {Q : Option AV → AH → Prop} (hd : 70 ≤ d) (hn : n < 520) (hL : 6 * n + 6 ≤ L) (hL2 : L ≤ 3072) (hI : Inv n gi g) (hg : g.2.2.1 102 0 = L) (ih : ∀ gi' g', Inv (n + 1) gi' g' → g'.2.2.1 102 0 = L → Runs d (lwF 18 (n + 1)) (gi', g') Q) : Runs d (lwF 1138 n) (gi, g) Q := by
  have hin : ∀ k, k ≤ 5 → ax_in (n32 (6 * n) + n32 k) (g.2.2.1 102 0) := fun k hk => by
    rw [n32_add, hg]
    exact n32_in (by omega) (by omega)
  unfold lwF
  rw [b_L_law_1138]
  refine ⟨hin 1 (by omega), hin 2 (by omega), law_two (OpI_of (op_place _ _)) hd hn hI (fun v gi1 g1 e1 e2 hM => ?_)⟩
  simp only [ax_psh_some]
  rw [b_L_law_1152, e1, e2]
  refine ⟨hin 1 (by omega), hin 2 (by omega), hM _ (fun gi2 g2 e3 hI2 => ?_)⟩
  simp only [ax_psh_some]
  rw [b_L_law_1166]
  refine ⟨fun _ => ?_, fun z => absurd rfl z⟩
  rw [b_L_law_1421, n32_add, show 6 * n + 6 = 6 * (n + 1) by omega]
  exact ih gi2 g2 hI2 (by rw [e3, hg])
theorem law_1171 {d n L : Nat} {gi : GI} {g : AG} {Q : Option AV → AH → Prop} (hd : 70 ≤ d) (hn : n < 520) (hL : 6 * n + 6 ≤ L) (hL2 : L ≤ 3072) (hI : Inv n gi g) (hg : g.2.2.1 102 0 = L) (ih : ∀ gi' g', Inv (n + 1) gi' g' → g'.2.2.1 102 0 = L → Runs d (lwF 18 (n + 1)) (gi', g') Q) : Runs d (lwF 1171 n) (gi, g) Q := by
  have hin : ∀ k, k ≤ 5 → ax_in (n32 (6 * n) + n32 k) (g.2.2.1 102 0) := fun k hk => by
    rw [n32_add, hg]
    exact n32_in (by omega) (by omega)
  unfold lwF
  rw [b_L_law_1171]
  refine ⟨hin 1 (by omega), law_two (oi_street _) hd hn hI (fun v gi1 g1 e1 e2 hM => ?_)⟩
  simp only [ax_psh_some]
  rw [b_L_law_1180, e1, e2]
  refine ⟨hin 1 (by omega), hM _ (fun gi2 g2 e3 hI2 => ?_)⟩
  simp only [ax_psh_some]
  rw [b_L_law_1189]
  refine ⟨fun _ => ?_, fun z => absurd rfl z⟩
  rw [b_L_law_1421, n32_add, show 6 * n + 6 = 6 * (n + 1) by omega]
  exact ih gi2 g2 hI2 (by rw [e3, hg])
theorem law_1194 {d n L : Nat} {gi : GI} {g : AG} {Q : Option AV → AH → Prop} (hd : 70 ≤ d) (hn : n < 520) (hL : 6 * n + 6 ≤ L) (hL2 : L ≤ 3072) (hI : Inv n gi g) (hg : g.2.2.1 102 0 = L) (ih : ∀ gi' g', Inv (n + 1) gi' g' → g'.2.2.1 102 0 = L → Runs d (lwF 18 (n + 1)) (gi', g') Q) : Runs d (lwF 1194 n) (gi, g) Q := by
  have hin : ∀ k, k ≤ 5 → ax_in (n32 (6 * n) + n32 k) (g.2.2.1 102 0) := fun k hk => by
    rw [n32_add, hg]
    exact n32_in (by omega) (by omega)
  unfold lwF
  rw [b_L_law_1194]
  refine ⟨hin 1 (by omega), law_two (oi_best _) hd hn hI (fun v gi1 g1 e1 e2 hM => ?_)⟩
  simp only [ax_psh_some]
  rw [b_L_law_1203, e1, e2]
  refine ⟨hin 1 (by omega), hM _ (fun gi2 g2 e3 hI2 => ?_)⟩
  simp only [ax_psh_some]
  rw [b_L_law_1212]
  refine ⟨fun _ => ?_, fun z => absurd rfl z⟩
  rw [b_L_law_1421, n32_add, show 6 * n + 6 = 6 * (n + 1) by omega]
  exact ih gi2 g2 hI2 (by rw [e3, hg])
theorem law_1217 {d n L : Nat} {gi : GI} {g : AG} {Q : Option AV → AH → Prop} (hd : 70 ≤ d) (hn : n < 520) (hL : 6 * n + 6 ≤ L) (hL2 : L ≤ 3072) (hI : Inv n gi g) (hg : g.2.2.1 102 0 = L) (ih : ∀ gi' g', Inv (n + 1) gi' g' → g'.2.2.1 102 0 = L → Runs d (lwF 18 (n + 1)) (gi', g') Q) : Runs d (lwF 1217 n) (gi, g) Q := by
  have hin : ∀ k, k ≤ 5 → ax_in (n32 (6 * n) + n32 k) (g.2.2.1 102 0) := fun k hk => by
    rw [n32_add, hg]
    exact n32_in (by omega) (by omega)
  unfold lwF
  rw [b_L_law_1217]
  refine ⟨hin 1 (by omega), law_two (oi_bestAt _) hd hn hI (fun v gi1 g1 e1 e2 hM => ?_)⟩
  simp only [ax_psh_some]
  rw [b_L_law_1226, e1, e2]
  refine ⟨hin 1 (by omega), hM _ (fun gi2 g2 e3 hI2 => ?_)⟩
  simp only [ax_psh_some]
  rw [b_L_law_1235]
  refine ⟨fun _ => ?_, fun z => absurd rfl z⟩
  rw [b_L_law_1421, n32_add, show 6 * n + 6 = 6 * (n + 1) by omega]
  exact ih gi2 g2 hI2 (by rw [e3, hg])
theorem law_1240 {d n L : Nat} {gi : GI} {g : AG} {Q : Option AV → AH → Prop} (hd : 70 ≤ d) (hn : n < 520) (hL : 6 * n + 6 ≤ L) (hL2 : L ≤ 3072) (hI : Inv n gi g) (hg : g.2.2.1 102 0 = L) (ih : ∀ gi' g', Inv (n + 1) gi' g' → g'.2.2.1 102 0 = L → Runs d (lwF 18 (n + 1)) (gi', g') Q) : Runs d (lwF 1240 n) (gi, g) Q := by
  have hin : ∀ k, k ≤ 5 → ax_in (n32 (6 * n) + n32 k) (g.2.2.1 102 0) := fun k hk => by
    rw [n32_add, hg]
    exact n32_in (by omega) (by omega)
  unfold lwF
  rw [b_L_law_1240]
  refine ⟨hin 1 (by omega), hin 2 (by omega), hin 3 (by omega), law_two (OpI_of (op_ruler _ _ _)) hd hn hI (fun v gi1 g1 e1 e2 hM => ?_)⟩
  simp only [ax_psh_some]
  rw [b_L_law_1259, e1, e2]
  refine ⟨hin 1 (by omega), hin 2 (by omega), hin 3 (by omega), hM _ (fun gi2 g2 e3 hI2 => ?_)⟩
  simp only [ax_psh_some]
  rw [b_L_law_1278]
  refine ⟨fun _ => ?_, fun z => absurd rfl z⟩
  rw [b_L_law_1421, n32_add, show 6 * n + 6 = 6 * (n + 1) by omega]
  exact ih gi2 g2 hI2 (by rw [e3, hg])
theorem law_1283 {d n L : Nat} {gi : GI} {g : AG} {Q : Option AV → AH → Prop} (hd : 70 ≤ d) (hn : n < 520) (hL : 6 * n + 6 ≤ L) (hL2 : L ≤ 3072) (hI : Inv n gi g) (hg : g.2.2.1 102 0 = L) (ih : ∀ gi' g', Inv (n + 1) gi' g' → g'.2.2.1 102 0 = L → Runs d (lwF 18 (n + 1)) (gi', g') Q) : Runs d (lwF 1283 n) (gi, g) Q := by
  have hin : ∀ k, k ≤ 5 → ax_in (n32 (6 * n) + n32 k) (g.2.2.1 102 0) := fun k hk => by
    rw [n32_add, hg]
    exact n32_in (by omega) (by omega)
  unfold lwF
  rw [b_L_law_1283]
  refine ⟨hin 1 (by omega), hin 2 (by omega), law_two (OpI_of (op_daub _ _)) hd hn hI (fun v gi1 g1 e1 e2 hM => ?_)⟩
  simp only [ax_psh_some]
  rw [b_L_law_1297, e1, e2]
  refine ⟨hin 1 (by omega), hin 2 (by omega), hM _ (fun gi2 g2 e3 hI2 => ?_)⟩
  simp only [ax_psh_some]
  rw [b_L_law_1311]
  refine ⟨fun _ => ?_, fun z => absurd rfl z⟩
  rw [b_L_law_1421, n32_add, show 6 * n + 6 = 6 * (n + 1) by omega]
  exact ih gi2 g2 hI2 (by rw [e3, hg])
theorem law_1316 {d n L : Nat} {gi : GI} {g : AG} {Q : Option AV → AH → Prop} (hd : 70 ≤ d) (hn : n < 520) (hL : 6 * n + 6 ≤ L) (hL2 : L ≤ 3072) (hI : Inv n gi g) (hg : g.2.2.1 102 0 = L) (ih : ∀ gi' g', Inv (n + 1) gi' g' → g'.2.2.1 102 0 = L → Runs d (lwF 18 (n + 1)) (gi', g') Q) : Runs d (lwF 1316 n) (gi, g) Q := by
  have hin : ∀ k, k ≤ 5 → ax_in (n32 (6 * n) + n32 k) (g.2.2.1 102 0) := fun k hk => by
    rw [n32_add, hg]
    exact n32_in (by omega) (by omega)
  unfold lwF
  rw [b_L_law_1316]
  refine ⟨hin 1 (by omega), law_two (OpI_of (op_daubed _)) hd hn hI (fun v gi1 g1 e1 e2 hM => ?_)⟩
  simp only [ax_psh_some]
  rw [b_L_law_1325, e1, e2]
  refine ⟨hin 1 (by omega), hM _ (fun gi2 g2 e3 hI2 => ?_)⟩
  simp only [ax_psh_some]
  rw [b_L_law_1334]
  refine ⟨fun _ => ?_, fun z => absurd rfl z⟩
  rw [b_L_law_1421, n32_add, show 6 * n + 6 = 6 * (n + 1) by omega]
  exact ih gi2 g2 hI2 (by rw [e3, hg])
theorem law_1339 {d n L : Nat} {gi : GI} {g : AG} {Q : Option AV → AH → Prop} (hd : 70 ≤ d) (hn : n < 520) (hL : 6 * n + 6 ≤ L) (hL2 : L ≤ 3072) (hI : Inv n gi g) (hg : g.2.2.1 102 0 = L) (ih : ∀ gi' g', Inv (n + 1) gi' g' → g'.2.2.1 102 0 = L → Runs d (lwF 18 (n + 1)) (gi', g') Q) : Runs d (lwF 1339 n) (gi, g) Q := by
  have hin : ∀ k, k ≤ 5 → ax_in (n32 (6 * n) + n32 k) (g.2.2.1 102 0) := fun k hk => by
    rw [n32_add, hg]
    exact n32_in (by omega) (by omega)
  unfold lwF
  rw [b_L_law_1339]
  refine ⟨hin 1 (by omega), law_two (OpI_of (op_image _)) hd hn hI (fun v gi1 g1 e1 e2 hM => ?_)⟩
  simp only [ax_psh_some]
  rw [b_L_law_1348, e1, e2]
  refine ⟨hin 1 (by omega), hM _ (fun gi2 g2 e3 hI2 => ?_)⟩
  simp only [ax_psh_some]
  rw [b_L_law_1357]
  refine ⟨fun _ => ?_, fun z => absurd rfl z⟩
  rw [b_L_law_1421, n32_add, show 6 * n + 6 = 6 * (n + 1) by omega]
  exact ih gi2 g2 hI2 (by rw [e3, hg])
theorem law_1362 {d n L : Nat} {gi : GI} {g : AG} {Q : Option AV → AH → Prop} (hd : 70 ≤ d) (hn : n < 520) (hL : 6 * n + 6 ≤ L) (hL2 : L ≤ 3072) (hI : Inv n gi g) (hg : g.2.2.1 102 0 = L) (ih : ∀ gi' g', Inv (n + 1) gi' g' → g'.2.2.1 102 0 = L → Runs d (lwF 18 (n + 1)) (gi', g') Q) : Runs d (lwF 1362 n) (gi, g) Q := by
  have hin : ∀ k, k ≤ 5 → ax_in (n32 (6 * n) + n32 k) (g.2.2.1 102 0) := fun k hk => by
    rw [n32_add, hg]
    exact n32_in (by omega) (by omega)
  unfold lwF
  rw [b_L_law_1362]
  refine ⟨hin 1 (by omega), law_two (OpI_of (op_back _)) hd hn hI (fun v gi1 g1 e1 e2 hM => ?_)⟩
  simp only [ax_psh_some]
  rw [b_L_law_1371, e1, e2]
  refine ⟨hin 1 (by omega), hM _ (fun gi2 g2 e3 hI2 => ?_)⟩
  simp only [ax_psh_some]
  rw [b_L_law_1380]
  refine ⟨fun _ => ?_, fun z => absurd rfl z⟩
  rw [b_L_law_1421, n32_add, show 6 * n + 6 = 6 * (n + 1) by omega]
  exact ih gi2 g2 hI2 (by rw [e3, hg])
theorem law_1385 {d n L : Nat} {gi : GI} {g : AG} {Q : Option AV → AH → Prop} (hd : 70 ≤ d) (hn : n < 520) (hL : 6 * n + 6 ≤ L) (hL2 : L ≤ 3072) (hI : Inv n gi g) (hg : g.2.2.1 102 0 = L) (ih : ∀ gi' g', Inv (n + 1) gi' g' → g'.2.2.1 102 0 = L → Runs d (lwF 18 (n + 1)) (gi', g') Q) : Runs d (lwF 1385 n) (gi, g) Q := by
  have hin : ∀ k, k ≤ 5 → ax_in (n32 (6 * n) + n32 k) (g.2.2.1 102 0) := fun k hk => by
    rw [n32_add, hg]
    exact n32_in (by omega) (by omega)
  unfold lwF
  rw [b_L_law_1385]
  refine ⟨hin 1 (by omega), law_two (OpI_of (op_count _)) hd hn hI (fun v gi1 g1 e1 e2 hM => ?_)⟩
  simp only [ax_psh_some]
  rw [b_L_law_1394, e1, e2]
  refine ⟨hin 1 (by omega), hM _ (fun gi2 g2 e3 hI2 => ?_)⟩
  simp only [ax_psh_some]
  rw [b_L_law_1403]
  refine ⟨fun _ => ?_, fun z => absurd rfl z⟩
  rw [b_L_law_1421, n32_add, show 6 * n + 6 = 6 * (n + 1) by omega]
  exact ih gi2 g2 hI2 (by rw [e3, hg])
theorem law_1408 {d n L : Nat} {gi : GI} {g : AG} {Q : Option AV → AH → Prop} (hd : 70 ≤ d) (hn : n < 520) (hL : 6 * n + 6 ≤ L) (hL2 : L ≤ 3072) (hI : Inv n gi g) (hg : g.2.2.1 102 0 = L) (ih : ∀ gi' g', Inv (n + 1) gi' g' → g'.2.2.1 102 0 = L → Runs d (lwF 18 (n + 1)) (gi', g') Q) : Runs d (lwF 1408 n) (gi, g) Q := by
  have hin : ∀ k, k ≤ 5 → ax_in (n32 (6 * n) + n32 k) (g.2.2.1 102 0) := fun k hk => by
    rw [n32_add, hg]
    exact n32_in (by omega) (by omega)
  unfold lwF
  rw [b_L_law_1408]
  refine law_two (OpI_of op_status) hd hn hI (fun v gi1 g1 e1 e2 hM => ?_)
  simp only [ax_psh_some]
  rw [b_L_law_1412]
  refine hM _ (fun gi2 g2 e3 hI2 => ?_)
  simp only [ax_psh_some]
  rw [b_L_law_1416]
  refine ⟨fun _ => ?_, fun z => absurd rfl z⟩
  rw [b_L_law_1421, n32_add, show 6 * n + 6 = 6 * (n + 1) by omega]
  exact ih gi2 g2 hI2 (by rw [e3, hg])
theorem tsw7 (x : Int32) : ax_tsw 7 x = 204 ∨ ax_tsw 7 x = 247 ∨ ax_tsw 7 x = 280 ∨ ax_tsw 7 x = 333 ∨ ax_tsw 7 x = 376 ∨ ax_tsw 7 x = 429 ∨ ax_tsw 7 x = 462 ∨ ax_tsw 7 x = 525 ∨ ax_tsw 7 x = 548 ∨ ax_tsw 7 x = 561 ∨ ax_tsw 7 x = 574 ∨ ax_tsw 7 x = 587 ∨ ax_tsw 7 x = 600 ∨ ax_tsw 7 x = 623 ∨ ax_tsw 7 x = 656 ∨ ax_tsw 7 x = 679 ∨ ax_tsw 7 x = 712 ∨ ax_tsw 7 x = 735 ∨ ax_tsw 7 x = 758 ∨ ax_tsw 7 x = 781 ∨ ax_tsw 7 x = 794 ∨ ax_tsw 7 x = 827 ∨ ax_tsw 7 x = 880 ∨ ax_tsw 7 x = 923 ∨ ax_tsw 7 x = 976 ∨ ax_tsw 7 x = 999 ∨ ax_tsw 7 x = 1032 ∨ ax_tsw 7 x = 1075 ∨ ax_tsw 7 x = 1138 ∨ ax_tsw 7 x = 1171 ∨ ax_tsw 7 x = 1194 ∨ ax_tsw 7 x = 1217 ∨ ax_tsw 7 x = 1240 ∨ ax_tsw 7 x = 1283 ∨ ax_tsw 7 x = 1316 ∨ ax_tsw 7 x = 1339 ∨ ax_tsw 7 x = 1362 ∨ ax_tsw 7 x = 1385 ∨ ax_tsw 7 x = 1408 ∨ ax_tsw 7 x = 1421 := by
  show ax_tp7 x = 204 ∨ ax_tp7 x = 247 ∨ ax_tp7 x = 280 ∨ ax_tp7 x = 333 ∨ ax_tp7 x = 376 ∨ ax_tp7 x = 429 ∨ ax_tp7 x = 462 ∨ ax_tp7 x = 525 ∨ ax_tp7 x = 548 ∨ ax_tp7 x = 561 ∨ ax_tp7 x = 574 ∨ ax_tp7 x = 587 ∨ ax_tp7 x = 600 ∨ ax_tp7 x = 623 ∨ ax_tp7 x = 656 ∨ ax_tp7 x = 679 ∨ ax_tp7 x = 712 ∨ ax_tp7 x = 735 ∨ ax_tp7 x = 758 ∨ ax_tp7 x = 781 ∨ ax_tp7 x = 794 ∨ ax_tp7 x = 827 ∨ ax_tp7 x = 880 ∨ ax_tp7 x = 923 ∨ ax_tp7 x = 976 ∨ ax_tp7 x = 999 ∨ ax_tp7 x = 1032 ∨ ax_tp7 x = 1075 ∨ ax_tp7 x = 1138 ∨ ax_tp7 x = 1171 ∨ ax_tp7 x = 1194 ∨ ax_tp7 x = 1217 ∨ ax_tp7 x = 1240 ∨ ax_tp7 x = 1283 ∨ ax_tp7 x = 1316 ∨ ax_tp7 x = 1339 ∨ ax_tp7 x = 1362 ∨ ax_tp7 x = 1385 ∨ ax_tp7 x = 1408 ∨ ax_tp7 x = 1421
  unfold ax_tp7
  simp only [Bool.cond_eq_ite]
  repeat' split
  all_goals simp
theorem law_loop {d L : Nat} {Q : Option AV → AH → Prop} (hd : 70 ≤ d) (hL2 : L ≤ 3072) (hQ : ∀ gi g, Inv (L / 6) gi g → Q (some (.inl (n32 1))) (gi, g)) : ∀ n, n ≤ L / 6 → ∀ (gi : GI) (g : AG), Inv n gi g → g.2.2.1 102 0 = L → Runs d (lwF 18 n) (gi, g) Q := by
  refine loop_up (n := L / 6) ?_ ?_
  · intro n hn ih gi g hI hg
    have hL : 6 * n + 6 ≤ L := by omega
    unfold lwF
    rw [b_L_law_18, hg]
    refine ⟨fun z => absurd z (by rw [n32_sub (by omega), n32_lt (by omega) (by omega)]; omega), fun _ => ?_⟩
    rw [b_L_law_27, hg]
    refine ⟨n32_in (by omega) (by omega), ?_⟩
    rcases tsw7 (gi 102 0 (n32 (6 * n)).toNatClampNeg &&& n32 63) with e | e | e | e | e | e | e | e | e | e | e | e | e | e | e | e | e | e | e | e | e | e | e | e | e | e | e | e | e | e | e | e | e | e | e | e | e | e | e | e
    · rw [e]
      exact law_204 hd (by omega) hL hL2 hI hg ih
    · rw [e]
      exact law_247 hd (by omega) hL hL2 hI hg ih
    · rw [e]
      exact law_280 hd (by omega) hL hL2 hI hg ih
    · rw [e]
      exact law_333 hd (by omega) hL hL2 hI hg ih
    · rw [e]
      exact law_376 hd (by omega) hL hL2 hI hg ih
    · rw [e]
      exact law_429 hd (by omega) hL hL2 hI hg ih
    · rw [e]
      exact law_462 hd (by omega) hL hL2 hI hg ih
    · rw [e]
      exact law_525 hd (by omega) hL hL2 hI hg ih
    · rw [e]
      exact law_548 hd (by omega) hL hL2 hI hg ih
    · rw [e]
      exact law_561 hd (by omega) hL hL2 hI hg ih
    · rw [e]
      exact law_574 hd (by omega) hL hL2 hI hg ih
    · rw [e]
      exact law_587 hd (by omega) hL hL2 hI hg ih
    · rw [e]
      exact law_600 hd (by omega) hL hL2 hI hg ih
    · rw [e]
      exact law_623 hd (by omega) hL hL2 hI hg ih
    · rw [e]
      exact law_656 hd (by omega) hL hL2 hI hg ih
    · rw [e]
      exact law_679 hd (by omega) hL hL2 hI hg ih
    · rw [e]
      exact law_712 hd (by omega) hL hL2 hI hg ih
    · rw [e]
      exact law_735 hd (by omega) hL hL2 hI hg ih
    · rw [e]
      exact law_758 hd (by omega) hL hL2 hI hg ih
    · rw [e]
      exact law_781 hd (by omega) hL hL2 hI hg ih
    · rw [e]
      exact law_794 hd (by omega) hL hL2 hI hg ih
    · rw [e]
      exact law_827 hd (by omega) hL hL2 hI hg ih
    · rw [e]
      exact law_880 hd (by omega) hL hL2 hI hg ih
    · rw [e]
      exact law_923 hd (by omega) hL hL2 hI hg ih
    · rw [e]
      exact law_976 hd (by omega) hL hL2 hI hg ih
    · rw [e]
      exact law_999 hd (by omega) hL hL2 hI hg ih
    · rw [e]
      exact law_1032 hd (by omega) hL hL2 hI hg ih
    · rw [e]
      exact law_1075 hd (by omega) hL hL2 hI hg ih
    · rw [e]
      exact law_1138 hd (by omega) hL hL2 hI hg ih
    · rw [e]
      exact law_1171 hd (by omega) hL hL2 hI hg ih
    · rw [e]
      exact law_1194 hd (by omega) hL hL2 hI hg ih
    · rw [e]
      exact law_1217 hd (by omega) hL hL2 hI hg ih
    · rw [e]
      exact law_1240 hd (by omega) hL hL2 hI hg ih
    · rw [e]
      exact law_1283 hd (by omega) hL hL2 hI hg ih
    · rw [e]
      exact law_1316 hd (by omega) hL hL2 hI hg ih
    · rw [e]
      exact law_1339 hd (by omega) hL hL2 hI hg ih
    · rw [e]
      exact law_1362 hd (by omega) hL hL2 hI hg ih
    · rw [e]
      exact law_1385 hd (by omega) hL hL2 hI hg ih
    · rw [e]
      exact law_1408 hd (by omega) hL hL2 hI hg ih
    · rw [e, b_L_law_1421, n32_add, show 6 * n + 6 = 6 * (n + 1) by omega]
      exact ih gi g (Inv_same hI) hg
  · intro gi g hI hg
    unfold lwF
    rw [b_L_law_18, hg]
    refine ⟨fun _ => ?_, fun z => absurd ?_ z⟩
    · rw [b_L_law_1427]
      exact ⟨Or.inr rfl, hQ gi g hI⟩
    · by_cases h6 : 6 ≤ L
      · rw [n32_sub h6, n32_lt (by omega) (by omega)]
        omega
      · have e0 : L / 6 = 0 := by omega
        rw [e0]
        have cs : L = 0 ∨ L = 1 ∨ L = 2 ∨ L = 3 ∨ L = 4 ∨ L = 5 := by omega
        rcases cs with rfl | rfl | rfl | rfl | rfl | rfl <;> decide
