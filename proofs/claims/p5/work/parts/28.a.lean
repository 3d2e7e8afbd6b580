
theorem step_ok {x M : Int32} (h0 : 0 ≤ x.toInt) (h : ¬ M ≤ x) : 0 ≤ (x + 1).toInt ∧ (M.toInt - (x + 1).toInt).toNat < (M.toInt - x.toInt).toNat := by
  have h1 : x.toInt < M.toInt := by
    rw [Int32.le_iff_toInt_le] at h
    omega
  have h2 : M.toInt < 2147483648 := by have := M.toInt_lt; omega
  have e : (x + 1).toInt = x.toInt + 1 := by
    rw [Int32.toInt_add, show (1 : Int32).toInt = 1 from rfl]
    rw [Int.bmod_eq_of_le (by omega) (by omega)]
  rw [e]
  omega
theorem step_ok2 {x M : Int32} (hM : M.toInt < 2147483647) (h0 : 0 ≤ x.toInt) (h : ¬ M < x) : 0 ≤ (x + 1).toInt ∧ (M.toInt + 1 - (x + 1).toInt).toNat < (M.toInt + 1 - x.toInt).toNat := by
  have h1 : x.toInt ≤ M.toInt := by
    rw [Int32.lt_iff_toInt_lt] at h
    omega
  have e : (x + 1).toInt = x.toInt + 1 := by
    rw [Int32.toInt_add, show (1 : Int32).toInt = 1 from rfl]
    rw [Int.bmod_eq_of_le (by omega) (by omega)]
  rw [e]
  omega
theorem LOOP_m0 {σ : Type} {body : (σ → Prop) → σ → Prop} (I : σ → σ → Prop) (μ : σ → Nat) (a : σ) (h0 : I a a) (hs : ∀ (z : σ) (G : σ → Prop), I a z → (∀ z', I a z' → μ z' < μ z → G z') → body G z) : LOOP body a := LOOP_m (I a) μ a h0 hs
theorem nar_ok {r : Int32} (h : r = 0 ∨ r = 1) : narrow .boolean (.int r) = .int r := by rcases h with h | h <;> subst h <;> rfl
theorem i0_ok : (0 : Int) ≤ (0 : Int32).toInt := by decide
theorem i1_ok : (0 : Int) ≤ (1 : Int32).toInt := by decide
theorem l_4 : (4 : Int32).toInt = (4 : Nat) := by decide
theorem l_5 : (5 : Int32).toInt = (5 : Nat) := by decide
theorem l_6 : (6 : Int32).toInt = (6 : Nat) := by decide
theorem l_20 : (20 : Int32).toInt = (20 : Nat) := by decide
theorem l_48 : (48 : Int32).toInt = (48 : Nat) := by decide
theorem vin_ok {x : Int32} {n : Nat} (M : Int32) (hM : M.toInt = n) (h0 : 0 ≤ x.toInt) (h : ¬ M ≤ x) : vp_in x n := by
  rw [vp_in_iff]
  rw [Int32.le_iff_toInt_le] at h
  omega
theorem vin_ok2 {x : Int32} {n : Nat} (M : Int32) (hM : M.toInt = n) (h0 : ¬ x < 0) (h : ¬ M ≤ x) : vp_in x n := by
  rw [vp_in_iff]
  rw [Int32.le_iff_toInt_le] at h
  rw [Int32.lt_iff_toInt_lt, show (0 : Int32).toInt = 0 from rfl] at h0
  omega
theorem vin_lt {x : Int32} {n : Nat} (M : Int32) (hM : M.toInt = n) (h0 : ¬ x < 0) (h : x < M) : vp_in x n := by
  rw [vp_in_iff]
  rw [Int32.lt_iff_toInt_lt] at h
  rw [Int32.lt_iff_toInt_lt, show (0 : Int32).toInt = 0 from rfl] at h0
  omega
theorem vin_n {x : Int32} {n : Nat} (hn : n < 2147483648) (h0 : 0 ≤ x.toInt) (h : ¬ nI n ≤ x) : vp_in x n := vin_ok (nI n) (nI_toInt hn) h0 h
theorem vin_n2 {x : Int32} {n : Nat} (hn : n < 2147483648) (h0 : ¬ x < 0) (h : ¬ nI n ≤ x) : vp_in x n := vin_ok2 (nI n) (nI_toInt hn) h0 h
theorem sf_J7_fill_53178 {p1 : Int32} {n0 : Nat} {s0 : FA} {Q : FA → Prop} (hn : n0 < 2147483648) (h : ∀ (v0 : FA), Q v0) : wp_J7_fill_53178 p1 n0 s0 Q := fill_spec _ _ _ _ hn (fun g _ => h g)
set_option maxHeartbeats 400000 in
theorem sf_X2_hasCell {p0 : Int32} {Q : Int32 → Prop} (h : ∀ (r : Int32) (hr : r = 0 ∨ r = 1), Q r) : wp_X2_hasCell p0 Q := by
  unfold wp_X2_hasCell
  repeat' (first
    | with_reducible exact h _ (Or.inl rfl)
    | with_reducible exact h _ (Or.inr rfl)
    | with_reducible exact h _ (by assumption)
    | with_reducible refine And.intro ?_ ?_
    | (intro _ e9; subst e9)
    | intro _)
set_option maxHeartbeats 400000 in
theorem sf_X2_bitOf {p0 : Int32} {Q : Int32 → Prop} (h : ∀ (r : Int32), Q r) : wp_X2_bitOf p0 Q := by
  unfold wp_X2_bitOf
  repeat' (first
    | with_reducible exact h _
    | with_reducible refine And.intro ?_ ?_
    | with_reducible refine sf_X2_hasCell ?_
    | (intro _ e9; subst e9)
    | intro _)
set_option maxHeartbeats 400000 in
theorem sf_X2_rowCells {p0 : Int32} {Q : Int32 → Prop} (h : ∀ (r : Int32), Q r) : wp_X2_rowCells p0 Q := by
  unfold wp_X2_rowCells
  repeat' (first
    | with_reducible exact h _
    | with_reducible refine And.intro ?_ ?_
    | (intro _ e9; subst e9)
    | intro _)
set_option maxHeartbeats 400000 in
theorem sf_X2_cellsLeftOf {p0 : Int32} {Q : Int32 → Prop} (h : ∀ (r : Int32), Q r) : wp_X2_cellsLeftOf p0 Q := by
  unfold wp_X2_cellsLeftOf
  repeat' (first
    | with_reducible exact h _
    | (unfold B_X2_cellsLeftOf_4; refine LOOP_m0 (fun a z => 0 ≤ (z.2.2).toInt ∧ z.1 = a.1) (fun z => (((5 : Int32)).toInt - (z.2.2).toInt).toNat) _ ⟨by first | with_reducible exact i0_ok | with_reducible exact i1_ok, rfl⟩ ?_; rintro ⟨x0', x1, x2⟩ G_4 ⟨h0_4, hx_x0⟩ hG_4; change LB_X2_cellsLeftOf_4 G_4   x0' x1 x2 Q; try dsimp only at h0_4; try dsimp only at hx_x0; subst hx_x0; unfold LB_X2_cellsLeftOf_4; refine And.intro (fun e_4 => ?_) (fun c_4 => ?_))
    | with_reducible refine And.intro ?_ ?_
    | (intro _ e9; subst e9)
    | intro _
    | unfold B_X2_cellsLeftOf_21
    | exact hG_4 _ ⟨(step_ok h0_4 c_4).1, rfl⟩ (step_ok h0_4 c_4).2)
set_option maxHeartbeats 400000 in
theorem sf_X2_leastOf {p0 : Int32} {Q : Int32 → Prop} (h : ∀ (r : Int32), Q r) : wp_X2_leastOf p0 Q := by
  unfold wp_X2_leastOf
  repeat' (first
    | with_reducible exact h _
    | with_reducible refine And.intro ?_ ?_
    | (intro _ e9; subst e9)
    | intro _)
set_option maxHeartbeats 400000 in
theorem sf_X2_beside {p0 : Int32} {Q : Int32 → Prop} (h : ∀ (r : Int32), Q r) : wp_X2_beside p0 Q := by
  unfold wp_X2_beside
  repeat' (first
    | with_reducible exact h _
    | with_reducible refine And.intro ?_ ?_
    | (intro _ e9; subst e9)
    | intro _)
set_option maxHeartbeats 400000 in
theorem sf_X2_columnsOf {p0 : Int32} {Q : Int32 → Prop} (h : ∀ (r : Int32), Q r) : wp_X2_columnsOf p0 Q := by
  unfold wp_X2_columnsOf
  repeat' (first
    | with_reducible exact h _
    | (unfold B_X2_columnsOf_4; refine LOOP_m0 (fun a z => 0 ≤ (z.2.2).toInt ∧ z.1 = a.1) (fun z => (((5 : Int32)).toInt - (z.2.2).toInt).toNat) _ ⟨by first | with_reducible exact i0_ok | with_reducible exact i1_ok, rfl⟩ ?_; rintro ⟨x0', x1, x2⟩ G_4 ⟨h0_4, hx_x0⟩ hG_4; change LB_X2_columnsOf_4 G_4   x0' x1 x2 Q; try dsimp only at h0_4; try dsimp only at hx_x0; subst hx_x0; unfold LB_X2_columnsOf_4; refine And.intro (fun e_4 => ?_) (fun c_4 => ?_))
    | with_reducible refine And.intro ?_ ?_
    | (intro _ e9; subst e9)
    | intro _
    | unfold B_X2_columnsOf_24
    | exact hG_4 _ ⟨(step_ok h0_4 c_4).1, rfl⟩ (step_ok h0_4 c_4).2)
set_option maxHeartbeats 400000 in
theorem sf_X2_flood {p0 : Int32} {p1 : Int32} {Q : Int32 → Prop} (h : ∀ (r : Int32), Q r) : wp_X2_flood p0 p1 Q := by
  unfold wp_X2_flood
  repeat' (first
    | with_reducible exact h _
    | (unfold B_X2_flood_4; refine LOOP_m0 (fun a z => 0 ≤ (z.2.2).toInt ∧ z.1 = a.1) (fun z => (((20 : Int32)).toInt - (z.2.2).toInt).toNat) _ ⟨by first | with_reducible exact i0_ok | with_reducible exact i1_ok, rfl⟩ ?_; rintro ⟨x1', x2, x3⟩ G_4 ⟨h0_4, hx_x1⟩ hG_4; change LB_X2_flood_4 G_4   x1' x2 x3 Q; try dsimp only at h0_4; try dsimp only at hx_x1; subst hx_x1; unfold LB_X2_flood_4; refine And.intro (fun e_4 => ?_) (fun c_4 => ?_))
    | with_reducible refine And.intro ?_ ?_
    | with_reducible refine sf_X2_beside ?_
    | (intro _ e9; subst e9)
    | intro _
    | exact hG_4 _ ⟨(step_ok h0_4 c_4).1, rfl⟩ (step_ok h0_4 c_4).2)
set_option maxHeartbeats 400000 in
theorem sf_J6_bitCount_0f7a4 {p0 : Int32} {Q : Int32 → Prop} (h : ∀ (r : Int32), Q r) : wp_J6_bitCount_0f7a4 p0 Q := by
  unfold wp_J6_bitCount_0f7a4
  repeat' (first
    | with_reducible exact h _
    | with_reducible refine And.intro ?_ ?_
    | (intro _ e9; subst e9)
    | intro _)
set_option maxHeartbeats 400000 in
theorem sf_X2_largestPatch {p0 : Int32} {Q : Int32 → Prop} (h : ∀ (r : Int32), Q r) : wp_X2_largestPatch p0 Q := by
  unfold wp_X2_largestPatch
  repeat' (first
    | with_reducible exact h _
    | (unfold B_X2_largestPatch_6; refine LOOP_m0 (fun a z => 0 ≤ (z.2.2).toInt) (fun z => (((20 : Int32)).toInt - (z.2.2).toInt).toNat) _ (by first | with_reducible exact i0_ok | with_reducible exact i1_ok) ?_; rintro ⟨x1, x2, x3⟩ G_6 h0_6 hG_6; change LB_X2_largestPatch_6 G_6   x1 x2 x3 Q; try dsimp only at h0_6; unfold LB_X2_largestPatch_6; refine And.intro (fun e_6 => ?_) (fun c_6 => ?_))
    | with_reducible refine And.intro ?_ ?_
    | with_reducible refine sf_X2_leastOf ?_
    | with_reducible refine sf_X2_flood ?_
    | with_reducible refine sf_J6_bitCount_0f7a4 ?_
    | (intro _ e9; subst e9)
    | intro _
    | exact hG_6 _ (step_ok h0_6 c_6).1 (step_ok h0_6 c_6).2)
set_option maxHeartbeats 400000 in
theorem sf_X2_steps {p0 : Int32} {p1 : Int32} {p2 : Int32} {Q : Int32 → Prop} (h : ∀ (r : Int32), Q r) : wp_X2_steps p0 p1 p2 Q := by
  unfold wp_X2_steps
  repeat' (first
    | with_reducible exact h _
    | (unfold B_X2_steps_23; refine LOOP_m0 (fun a z => 0 ≤ (z.2.2.2).toInt ∧ z.1 = a.1 ∧ z.2.1 = a.2.1) (fun z => (((20 : Int32)).toInt - (z.2.2.2).toInt).toNat) _ ⟨by first | with_reducible exact i0_ok | with_reducible exact i1_ok, rfl, rfl⟩ ?_; rintro ⟨x2', x3', x4, x5⟩ G_23 ⟨h0_23, hx_x2, hx_x3⟩ hG_23; change LB_X2_steps_23 G_23   x2' x3' x4 x5 Q; try dsimp only at h0_23; try dsimp only at hx_x2; subst hx_x2; try dsimp only at hx_x3; subst hx_x3; unfold LB_X2_steps_23; refine And.intro (fun e_23 => ?_) (fun c_23 => ?_))
    | with_reducible refine And.intro ?_ ?_
    | with_reducible refine sf_X2_beside ?_
    | with_reducible refine sf_X2_bitOf ?_
    | (intro _ e9; subst e9)
    | intro _
    | exact hG_23 _ ⟨(step_ok h0_23 c_23).1, rfl, rfl⟩ (step_ok h0_23 c_23).2)
set_option maxHeartbeats 400000 in
theorem sf_X2_fewestGnawed {p0 : Int32} {p1 : Int32} {p2 : Int32} {p3 : Int32} {Q : Int32 → Prop} (h : ∀ (r : Int32), Q r) : wp_X2_fewestGnawed p0 p1 p2 p3 Q := by
  unfold wp_X2_fewestGnawed
  repeat' (first
    | with_reducible exact h _
    | (unfold B_X2_fewestGnawed_24; refine LOOP_m0 (fun a z => 0 ≤ (z.2.2.2.2.2).toInt ∧ z.1 = a.1 ∧ z.2.1 = a.2.1 ∧ z.2.2.1 = a.2.2.1 ∧ z.2.2.2.1 = a.2.2.2.1) (fun z => (((20 : Int32)).toInt + 1 - (z.2.2.2.2.2).toInt).toNat) _ ⟨by first | with_reducible exact i0_ok | with_reducible exact i1_ok, rfl, rfl, rfl, rfl⟩ ?_; rintro ⟨x0', x2', x3', x4', x5, x6⟩ G_24 ⟨h0_24, hx_x0, hx_x2, hx_x3, hx_x4⟩ hG_24; change LB_X2_fewestGnawed_24 G_24   x0' x2' x3' x4' x5 x6 Q; try dsimp only at h0_24; try dsimp only at hx_x0; subst hx_x0; try dsimp only at hx_x2; subst hx_x2; try dsimp only at hx_x3; subst hx_x3; try dsimp only at hx_x4; subst hx_x4; unfold LB_X2_fewestGnawed_24; refine And.intro (fun e_24 => ?_) (fun c_24 => ?_))
    | with_reducible refine And.intro ?_ ?_
    | with_reducible refine sf_X2_flood ?_
    | with_reducible refine sf_X2_beside ?_
    | with_reducible refine sf_X2_bitOf ?_
    | (intro _ e9; subst e9)
    | intro _
    | exact hG_24 _ ⟨(step_ok2 (by decide) h0_24 c_24).1, rfl, rfl, rfl, rfl⟩ (step_ok2 (by decide) h0_24 c_24).2)
set_option maxHeartbeats 400000 in
theorem sf_X3_get {p1 : Int32} {n0 : Nat} {s0 : FA} {Q : Int32 → Prop} (hn : n0 < 2147483648) (h : ∀ (r : Int32), Q r) : wp_X3_get p1 n0 s0 Q := by
  unfold wp_X3_get
  repeat' (first
    | with_reducible exact h _
    | with_reducible refine And.intro ?_ ?_
    | (refine vin_n hn ?_ ?_ <;> assumption)
    | (refine vin_n2 hn ?_ ?_ <;> assumption)
    | (unfold vp_in; decide)
    | (intro _ e9; subst e9)
    | intro _)
set_option maxHeartbeats 400000 in
theorem sf_X3_put {p1 : Int32} {p2 : Int32} {n0 : Nat} {s0 : FA} {Q : FA → Prop} (hn : n0 < 2147483648) (h : ∀ (v0 : FA), Q v0) : wp_X3_put p1 p2 n0 s0 Q := by
  unfold wp_X3_put
  repeat' (first
    | with_reducible exact h _
    | with_reducible refine And.intro ?_ ?_
    | (refine vin_n hn ?_ ?_ <;> assumption)
    | (refine vin_n2 hn ?_ ?_ <;> assumption)
    | (unfold vp_in; decide)
    | (intro _ e9; subst e9)
    | intro _)
set_option maxHeartbeats 400000 in
theorem sf_X3_add {p1 : Int32} {p2 : Int32} {n0 : Nat} {s0 : FA} {Q : FA → Prop} (hn : n0 < 2147483648) (h : ∀ (v0 : FA), Q v0) : wp_X3_add p1 p2 n0 s0 Q := by
  unfold wp_X3_add
  repeat' (first
    | with_reducible exact h _
    | with_reducible refine And.intro ?_ ?_
    | (refine vin_n hn ?_ ?_ <;> assumption)
    | (refine vin_n2 hn ?_ ?_ <;> assumption)
    | (unfold vp_in; decide)
    | (intro _ e9; subst e9)
    | intro _)
set_option maxHeartbeats 400000 in
theorem sf_X1_hasOwner {p0 : Int32} {s0 : CS} {Q : Int32 → Prop} (h : ∀ (r : Int32) (hr : r = 0 ∨ r = 1), Q r) : wp_X1_hasOwner p0 s0 Q := by
  unfold wp_X1_hasOwner
  repeat' (first
    | with_reducible exact h _ (Or.inl rfl)
    | with_reducible exact h _ (Or.inr rfl)
    | with_reducible exact h _ (by assumption)
    | with_reducible refine And.intro ?_ ?_
    | (intro _ e9; subst e9)
    | intro _)
set_option maxHeartbeats 400000 in
theorem sf_X1_hasHole {p0 : Int32} {s0 : CS} {Q : Int32 → Prop} (h : ∀ (r : Int32) (hr : r = 0 ∨ r = 1), Q r) : wp_X1_hasHole p0 s0 Q := by
  unfold wp_X1_hasHole
  repeat' (first
    | with_reducible exact h _ (Or.inl rfl)
    | with_reducible exact h _ (Or.inr rfl)
    | with_reducible exact h _ (by assumption)
    | with_reducible refine And.intro ?_ ?_
    | (intro _ e9; subst e9)
    | intro _)
set_option maxHeartbeats 400000 in
theorem sf_X1_rowsOf {p0 : Int32} {s0 : CS} {Q : Int32 → Prop} (h : ∀ (r : Int32), Q r) : wp_X1_rowsOf p0 s0 Q := by
  unfold wp_X1_rowsOf
  repeat' (first
    | with_reducible exact h _
    | (unfold B_X1_rowsOf_4; refine LOOP_m0 (fun a z => 0 ≤ (z.2.2).toInt ∧ z.1 = a.1) (fun z => (((4 : Int32)).toInt - (z.2.2).toInt).toNat) _ ⟨by first | with_reducible exact i0_ok | with_reducible exact i1_ok, rfl⟩ ?_; rintro ⟨x1', x2, x3⟩ G_4 ⟨h0_4, hx_x1⟩ hG_4; change LB_X1_rowsOf_4 G_4  s0 x1' x2 x3 Q; try dsimp only at h0_4; try dsimp only at hx_x1; subst hx_x1; unfold LB_X1_rowsOf_4; refine And.intro (fun e_4 => ?_) (fun c_4 => ?_))
    | with_reducible refine And.intro ?_ ?_
    | (exact vin_ok (4 : Int32) l_4 h0_4 c_4)
    | (refine vin_ok2 (4 : Int32) l_4 ?_ ?_ <;> assumption)
    | (refine vin_lt (4 : Int32) l_4 ?_ ?_ <;> assumption)
    | (refine vin_ok (4 : Int32) l_4 ?_ ?_ <;> assumption)
    | (unfold vp_in; decide)
    | (intro _ e9; subst e9)
    | intro _
    | unfold B_X1_rowsOf_25
    | exact hG_4 _ ⟨(step_ok h0_4 c_4).1, rfl⟩ (step_ok h0_4 c_4).2)
set_option maxHeartbeats 400000 in
theorem sf_X1_rowCellsOf {p0 : Int32} {s0 : CS} {Q : Int32 → Prop} (h : ∀ (r : Int32), Q r) : wp_X1_rowCellsOf p0 s0 Q := by
  unfold wp_X1_rowCellsOf
  repeat' (first
    | with_reducible exact h _
    | (unfold B_X1_rowCellsOf_4; refine LOOP_m0 (fun a z => 0 ≤ (z.2.2).toInt ∧ z.1 = a.1) (fun z => (((4 : Int32)).toInt - (z.2.2).toInt).toNat) _ ⟨by first | with_reducible exact i0_ok | with_reducible exact i1_ok, rfl⟩ ?_; rintro ⟨x1', x2, x3⟩ G_4 ⟨h0_4, hx_x1⟩ hG_4; change LB_X1_rowCellsOf_4 G_4  s0 x1' x2 x3 Q; try dsimp only at h0_4; try dsimp only at hx_x1; subst hx_x1; unfold LB_X1_rowCellsOf_4; refine And.intro (fun e_4 => ?_) (fun c_4 => ?_))
    | with_reducible refine And.intro ?_ ?_
    | (exact vin_ok (4 : Int32) l_4 h0_4 c_4)
    | (refine vin_ok2 (4 : Int32) l_4 ?_ ?_ <;> assumption)
    | (refine vin_lt (4 : Int32) l_4 ?_ ?_ <;> assumption)
    | (refine vin_ok (4 : Int32) l_4 ?_ ?_ <;> assumption)
    | (unfold vp_in; decide)
    | with_reducible refine sf_X1_hasOwner ?_
    | with_reducible refine sf_X2_rowCells ?_
    | (intro _ e9; subst e9)
    | intro _
    | unfold B_X1_rowCellsOf_42
    | exact hG_4 _ ⟨(step_ok h0_4 c_4).1, rfl⟩ (step_ok h0_4 c_4).2)
set_option maxHeartbeats 400000 in
theorem sf_X1_turnsOf {p0 : Int32} {s0 : CS} {Q : Int32 → Prop} (h : ∀ (r : Int32), Q r) : wp_X1_turnsOf p0 s0 Q := by
  unfold wp_X1_turnsOf
  repeat' (first
    | with_reducible exact h _
    | with_reducible refine And.intro ?_ ?_
    | with_reducible refine sf_X1_hasHole ?_
    | with_reducible refine sf_X3_get (by decide) ?_
    | (intro _ e9; subst e9)
    | intro _)
set_option maxHeartbeats 400000 in
theorem sf_X1_forget {s0 : CS} {Q : CS → Prop} (h : ∀ (v0 : CS), Q v0) : wp_X1_forget s0 Q := by
  unfold wp_X1_forget
  repeat' (first
    | with_reducible exact h _
    | with_reducible refine And.intro ?_ ?_
    | with_reducible refine sf_J7_fill_53178 (by decide) ?_
    | (intro _ e9; subst e9)
    | intro _)
set_option maxHeartbeats 400000 in
theorem sf_X1_addHole {p0 : Int32} {p1 : Int32} {p2 : Int32} {s0 : CS} {Q : CS → Prop} (h : ∀ (v0 : CS), Q v0) : wp_X1_addHole p0 p1 p2 s0 Q := by
  unfold wp_X1_addHole
  repeat' (first
    | with_reducible exact h _
    | with_reducible refine And.intro ?_ ?_
    | with_reducible refine sf_X3_put (by decide) ?_
    | with_reducible refine sf_X2_bitOf ?_
    | (intro _ e9; subst e9)
    | intro _)
set_option maxHeartbeats 400000 in
theorem sf_X1_tellLoneHole {p0 : Int32} {s0 : CS} {Q : CS → Prop} (h : ∀ (v0 : CS), Q v0) : wp_X1_tellLoneHole p0 s0 Q := by
  unfold wp_X1_tellLoneHole
  repeat' (first
    | with_reducible exact h _
    | with_reducible refine And.intro ?_ ?_
    | with_reducible refine sf_X1_forget ?_
    | with_reducible refine sf_X1_addHole ?_
    | (intro _ e9; subst e9)
    | intro _)
set_option maxHeartbeats 400000 in
theorem sf_X1_opensPart {p0 : Int32} {s0 : CS} {Q : Int32 → Prop} (h : ∀ (r : Int32) (hr : r = 0 ∨ r = 1), Q r) : wp_X1_opensPart p0 s0 Q := by
  unfold wp_X1_opensPart
  repeat' (first
    | with_reducible exact h _ (Or.inl rfl)
    | with_reducible exact h _ (Or.inr rfl)
    | with_reducible exact h _ (by assumption)
    | with_reducible refine And.intro ?_ ?_
    | (intro _ e9; subst e9)
    | intro _)
set_option maxHeartbeats 400000 in
theorem sf_X1_readsOwner {p0 : Int32} {s0 : CS} {Q : Int32 → CS → Prop} (h : ∀ (r : Int32) (hr : r = 0 ∨ r = 1) (v0 : CS), Q r v0) : wp_X1_readsOwner p0 s0 Q := by
  unfold wp_X1_readsOwner
  repeat' (first
    | with_reducible exact h _ (Or.inl rfl) _
    | with_reducible exact h _ (Or.inr rfl) _
    | with_reducible exact h _ (by assumption) _
    | with_reducible refine And.intro ?_ ?_
    | with_reducible refine sf_X3_put (by decide) ?_
    | (intro _ e9; subst e9)
    | intro _)
set_option maxHeartbeats 400000 in
theorem sf_X1_readsRow {p0 : Int32} {s0 : CS} {Q : Int32 → CS → Prop} (h : ∀ (r : Int32) (hr : r = 0 ∨ r = 1) (v0 : CS), Q r v0) : wp_X1_readsRow p0 s0 Q := by
  unfold wp_X1_readsRow
  repeat' (first
    | with_reducible exact h _ (Or.inl rfl) _
    | with_reducible exact h _ (Or.inr rfl) _
    | with_reducible exact h _ (by assumption) _
    | with_reducible refine And.intro ?_ ?_
    | with_reducible refine sf_X1_hasOwner ?_
    | with_reducible refine sf_X3_put (by decide) ?_
    | with_reducible refine sf_X3_get (by decide) ?_
    | with_reducible refine sf_X2_rowCells ?_
    | (intro _ e9; subst e9)
    | intro _
    | unfold B_X1_readsRow_108)
set_option maxHeartbeats 400000 in
theorem sf_X1_readsHole {p0 : Int32} {s0 : CS} {Q : Int32 → CS → Prop} (h : ∀ (r : Int32) (hr : r = 0 ∨ r = 1) (v0 : CS), Q r v0) : wp_X1_readsHole p0 s0 Q := by
  unfold wp_X1_readsHole
  repeat' (first
    | with_reducible exact h _ (Or.inl rfl) _
    | with_reducible exact h _ (Or.inr rfl) _
    | with_reducible exact h _ (by assumption) _
    | with_reducible exact nar_ok (by assumption)
    | with_reducible refine And.intro ?_ ?_
    | with_reducible refine sf_X2_hasCell ?_
    | with_reducible refine sf_X2_bitOf ?_
    | with_reducible refine sf_X1_hasOwner ?_
    | with_reducible refine sf_X1_addHole ?_
    | (intro _ e9; subst e9)
    | intro _)
set_option maxHeartbeats 400000 in
theorem sf_X1_reads {p0 : Int32} {s0 : CS} {Q : Int32 → CS → Prop} (h : ∀ (r : Int32) (hr : r = 0 ∨ r = 1) (v0 : CS), Q r v0) : wp_X1_reads p0 s0 Q := by
  unfold wp_X1_reads
  repeat' (first
    | with_reducible exact h _ (Or.inl rfl) _
    | with_reducible exact h _ (Or.inr rfl) _
    | with_reducible exact h _ (by assumption) _
    | with_reducible exact nar_ok (by assumption)
    | with_reducible refine And.intro ?_ ?_
    | with_reducible refine sf_X1_opensPart ?_
    | with_reducible refine sf_X1_readsOwner ?_
    | with_reducible refine sf_X1_readsRow ?_
    | with_reducible refine sf_X1_readsHole ?_
    | (intro _ e9; subst e9)
    | intro _)
set_option maxHeartbeats 400000 in
theorem sf_X1_readAll {p1 : Int32} {n1 : Nat} {s0 : CS} {s1 : FA} {Q : Int32 → CS → FA → Prop} (hn : n1 < 2147483648) (h : ∀ (r : Int32) (v0 : CS), Q r v0 s1) : wp_X1_readAll p1 n1 s0 s1 Q := by
  unfold wp_X1_readAll
  repeat' (first
    | with_reducible exact h _ _
    | (unfold B_X1_readAll_6; refine LOOP_m0 (fun a z => 0 ≤ (z.2.1).toInt ∧ z.1 = a.1 ∧ z.2.2.2 = a.2.2.2) (fun z => ((z.1).toInt - (z.2.1).toInt).toNat) _ ⟨by first | with_reducible exact i0_ok | with_reducible exact i1_ok, rfl, rfl⟩ ?_; rintro ⟨x2', x3, s0, s1'⟩ G_6 ⟨h0_6, hx_x2, hx_s1⟩ hG_6; change LB_X1_readAll_6 G_6  n1 x2' x3 s0 s1' Q; try dsimp only at h0_6; try dsimp only at hx_x2; subst hx_x2; try dsimp only at hx_s1; subst hx_s1; unfold LB_X1_readAll_6; refine And.intro (fun e_6 => ?_) (fun c_6 => ?_))
    | with_reducible refine And.intro ?_ ?_
    | (refine vin_n hn ?_ ?_ <;> assumption)
    | (refine vin_n2 hn ?_ ?_ <;> assumption)
    | (unfold vp_in; decide)
    | with_reducible refine sf_X1_reads ?_
    | with_reducible refine sf_X1_forget ?_
    | (intro _ e9; subst e9)
    | intro _
    | unfold B_X1_readAll_35
    | exact hG_6 _ ⟨(step_ok h0_6 c_6).1, rfl, rfl⟩ (step_ok h0_6 c_6).2)
set_option maxHeartbeats 400000 in
theorem sf_X4_addOne {p0 : Int32} {p1 : Int32} {p2 : Int32} {s0 : CS} {Q : CS → Prop} (h : ∀ (v0 : CS), Q v0) : wp_X4_addOne p0 p1 p2 s0 Q := by
  unfold wp_X4_addOne
  repeat' (first
    | with_reducible exact h _
    | with_reducible refine And.intro ?_ ?_
    | (refine vin_ok2 (3 : Int32) l_3 ?_ ?_ <;> assumption)
    | (refine vin_lt (3 : Int32) l_3 ?_ ?_ <;> assumption)
    | (refine vin_ok (3 : Int32) l_3 ?_ ?_ <;> assumption)
    | (refine vin_ok2 (6 : Int32) l_6 ?_ ?_ <;> assumption)
    | (refine vin_lt (6 : Int32) l_6 ?_ ?_ <;> assumption)
    | (refine vin_ok (6 : Int32) l_6 ?_ ?_ <;> assumption)
    | (unfold vp_in; decide)
    | (intro _ e9; subst e9)
    | intro _)
set_option maxHeartbeats 400000 in
theorem sf_X4_agrees {p0 : Int32} {p1 : Int32} {s0 : CS} {Q : Int32 → Prop} (h : ∀ (r : Int32) (hr : r = 0 ∨ r = 1), Q r) : wp_X4_agrees p0 p1 s0 Q := by
  unfold wp_X4_agrees
  repeat' (first
    | with_reducible exact h _ (Or.inl rfl)
    | with_reducible exact h _ (Or.inr rfl)
    | with_reducible exact h _ (by assumption)
    | (unfold B_X4_agrees_2; refine LOOP_m0 (fun a z => 0 ≤ (z.2.2).toInt ∧ z.1 = a.1 ∧ z.2.1 = a.2.1) (fun z => (((6 : Int32)).toInt - (z.2.2).toInt).toNat) _ ⟨by first | with_reducible exact i0_ok | with_reducible exact i1_ok, rfl, rfl⟩ ?_; rintro ⟨x1', x2', x3⟩ G_2 ⟨h0_2, hx_x1, hx_x2⟩ hG_2; change LB_X4_agrees_2 G_2  s0 x1' x2' x3 Q; try dsimp only at h0_2; try dsimp only at hx_x1; subst hx_x1; try dsimp only at hx_x2; subst hx_x2; unfold LB_X4_agrees_2; refine And.intro (fun e_2 => ?_) (fun c_2 => ?_))
    | with_reducible refine And.intro ?_ ?_
    | (exact vin_ok (6 : Int32) l_6 h0_2 c_2)
    | (refine vin_ok2 (6 : Int32) l_6 ?_ ?_ <;> assumption)
    | (refine vin_lt (6 : Int32) l_6 ?_ ?_ <;> assumption)
    | (refine vin_ok (6 : Int32) l_6 ?_ ?_ <;> assumption)
    | (unfold vp_in; decide)
    | with_reducible refine sf_X2_bitOf ?_
    | (intro _ e9; subst e9)
    | intro _
    | unfold B_X4_agrees_60
    | unfold B_X4_agrees_35
    | exact hG_2 _ ⟨(step_ok h0_2 c_2).1, rfl, rfl⟩ (step_ok h0_2 c_2).2)
set_option maxHeartbeats 400000 in
theorem sf_X5_copyFrom {s0 : CS} {s1 : CS} {Q : CS → CS → Prop} (h : ∀ (v0 : CS), Q v0 s1) : wp_X5_copyFrom s0 s1 Q := by
  unfold wp_X5_copyFrom
  repeat' (first
    | with_reducible exact h _
    | with_reducible refine And.intro ?_ ?_
    | (intro _ e9; subst e9)
    | intro _)
set_option maxHeartbeats 400000 in
theorem sf_X5_beginWith {s0 : CS} {s1 : CS} {Q : CS → CS → Prop} (h : ∀ (v0 : CS), Q v0 s1) : wp_X5_beginWith s0 s1 Q := by
  unfold wp_X5_beginWith
  repeat' (first
    | with_reducible exact h _
    | (unfold B_X5_beginWith_2; refine LOOP_m0 (fun a z => 0 ≤ (z.1).toInt ∧ z.2.2 = a.2.2) (fun z => (((5 : Int32)).toInt - (z.1).toInt).toNat) _ ⟨by first | with_reducible exact i0_ok | with_reducible exact i1_ok, rfl⟩ ?_; rintro ⟨x2, s0, s1'⟩ G_2 ⟨h0_2, hx_s1⟩ hG_2; change LB_X5_beginWith_2 G_2   x2 s0 s1' Q; try dsimp only at h0_2; try dsimp only at hx_s1; subst hx_s1; unfold LB_X5_beginWith_2; refine And.intro (fun e_2 => ?_) (fun c_2 => ?_))
    | with_reducible refine And.intro ?_ ?_
    | (exact vin_ok (5 : Int32) l_5 h0_2 c_2)
    | (refine vin_ok2 (5 : Int32) l_5 ?_ ?_ <;> assumption)
    | (refine vin_lt (5 : Int32) l_5 ?_ ?_ <;> assumption)
    | (refine vin_ok (5 : Int32) l_5 ?_ ?_ <;> assumption)
    | (unfold vp_in; decide)
    | with_reducible refine sf_J7_fill_53178 (by decide) ?_
    | with_reducible refine sf_X1_hasHole ?_
    | with_reducible refine sf_X2_bitOf ?_
    | (intro _ e9; subst e9)
    | intro _
    | unfold B_X5_beginWith_56
    | unfold B_X5_beginWith_35
    | exact hG_2 _ ⟨(step_ok h0_2 c_2).1, rfl⟩ (step_ok h0_2 c_2).2)
set_option maxHeartbeats 400000 in
theorem sf_X5_putLoneHole {p0 : Int32} {s0 : CS} {Q : CS → Prop} (h : ∀ (v0 : CS), Q v0) : wp_X5_putLoneHole p0 s0 Q := by
  unfold wp_X5_putLoneHole
  repeat' (first
    | with_reducible exact h _
    | with_reducible refine And.intro ?_ ?_
    | (refine vin_ok2 (5 : Int32) l_5 ?_ ?_ <;> assumption)
    | (refine vin_lt (5 : Int32) l_5 ?_ ?_ <;> assumption)
    | (refine vin_ok (5 : Int32) l_5 ?_ ?_ <;> assumption)
    | (unfold vp_in; decide)
    | with_reducible refine sf_X2_bitOf ?_
    | (intro _ e9; subst e9)
    | intro _)
set_option maxHeartbeats 400000 in
theorem sf_X5_cellsOfHole {p0 : Int32} {s0 : CS} {Q : Int32 → Prop} (h : ∀ (r : Int32), Q r) : wp_X5_cellsOfHole p0 s0 Q := by
  unfold wp_X5_cellsOfHole
  repeat' (first
    | with_reducible exact h _
    | with_reducible refine And.intro ?_ ?_
    | (refine vin_ok2 (5 : Int32) l_5 ?_ ?_ <;> assumption)
    | (refine vin_lt (5 : Int32) l_5 ?_ ?_ <;> assumption)
    | (refine vin_ok (5 : Int32) l_5 ?_ ?_ <;> assumption)
    | (unfold vp_in; decide)
    | (intro _ e9; subst e9)
    | intro _)
set_option maxHeartbeats 400000 in
theorem sf_X5_sizeOfHole {p0 : Int32} {s0 : CS} {Q : Int32 → Prop} (h : ∀ (r : Int32), Q r) : wp_X5_sizeOfHole p0 s0 Q := by
  unfold wp_X5_sizeOfHole
  repeat' (first
    | with_reducible exact h _
    | with_reducible refine And.intro ?_ ?_
    | with_reducible refine sf_X5_cellsOfHole ?_
    | with_reducible refine sf_J6_bitCount_0f7a4 ?_
    | (intro _ e9; subst e9)
    | intro _)
set_option maxHeartbeats 400000 in
theorem sf_X5_isGone {p0 : Int32} {s0 : CS} {Q : Int32 → Prop} (h : ∀ (r : Int32) (hr : r = 0 ∨ r = 1), Q r) : wp_X5_isGone p0 s0 Q := by
  unfold wp_X5_isGone
  repeat' (first
    | with_reducible exact h _ (Or.inl rfl)
    | with_reducible exact h _ (Or.inr rfl)
    | with_reducible exact h _ (by assumption)
    | with_reducible refine And.intro ?_ ?_
    | with_reducible refine sf_X5_cellsOfHole ?_
    | (intro _ e9; subst e9)
    | intro _)
set_option maxHeartbeats 400000 in
theorem sf_X5_holesLeft {s0 : CS} {Q : Int32 → Prop} (h : ∀ (r : Int32), Q r) : wp_X5_holesLeft s0 Q := by
  unfold wp_X5_holesLeft
  repeat' (first
    | with_reducible exact h _
    | (unfold B_X5_holesLeft_4; refine LOOP_m0 (fun a z => 0 ≤ (z.2).toInt) (fun z => (((5 : Int32)).toInt - (z.2).toInt).toNat) _ (by first | with_reducible exact i0_ok | with_reducible exact i1_ok) ?_; rintro ⟨x1, x2⟩ G_4 h0_4 hG_4; change LB_X5_holesLeft_4 G_4  s0 x1 x2 Q; try dsimp only at h0_4; unfold LB_X5_holesLeft_4; refine And.intro (fun e_4 => ?_) (fun c_4 => ?_))
    | with_reducible refine And.intro ?_ ?_
    | (exact vin_ok (5 : Int32) l_5 h0_4 c_4)
    | (refine vin_ok2 (5 : Int32) l_5 ?_ ?_ <;> assumption)
    | (refine vin_lt (5 : Int32) l_5 ?_ ?_ <;> assumption)
    | (refine vin_ok (5 : Int32) l_5 ?_ ?_ <;> assumption)
    | (unfold vp_in; decide)
    | (intro _ e9; subst e9)
    | intro _
    | unfold B_X5_holesLeft_24
    | exact hG_4 _ (step_ok h0_4 c_4).1 (step_ok h0_4 c_4).2)
set_option maxHeartbeats 400000 in
theorem sf_X5_holesOf {p0 : Int32} {s0 : CS} {Q : Int32 → Prop} (h : ∀ (r : Int32), Q r) : wp_X5_holesOf p0 s0 Q := by
  unfold wp_X5_holesOf
  repeat' (first
    | with_reducible exact h _
    | (unfold B_X5_holesOf_4; refine LOOP_m0 (fun a z => 0 ≤ (z.2.2).toInt ∧ z.1 = a.1) (fun z => (((5 : Int32)).toInt - (z.2.2).toInt).toNat) _ ⟨by first | with_reducible exact i0_ok | with_reducible exact i1_ok, rfl⟩ ?_; rintro ⟨x1', x2, x3⟩ G_4 ⟨h0_4, hx_x1⟩ hG_4; change LB_X5_holesOf_4 G_4  s0 x1' x2 x3 Q; try dsimp only at h0_4; try dsimp only at hx_x1; subst hx_x1; unfold LB_X5_holesOf_4; refine And.intro (fun e_4 => ?_) (fun c_4 => ?_))
    | with_reducible refine And.intro ?_ ?_
    | (exact vin_ok (5 : Int32) l_5 h0_4 c_4)
    | (refine vin_ok2 (5 : Int32) l_5 ?_ ?_ <;> assumption)
    | (refine vin_lt (5 : Int32) l_5 ?_ ?_ <;> assumption)
    | (refine vin_ok (5 : Int32) l_5 ?_ ?_ <;> assumption)
    | (unfold vp_in; decide)
    | (intro _ e9; subst e9)
    | intro _
    | unfold B_X5_holesOf_25
    | exact hG_4 _ ⟨(step_ok h0_4 c_4).1, rfl⟩ (step_ok h0_4 c_4).2)
set_option maxHeartbeats 400000 in
theorem sf_X5_cellsOfHoles {p0 : Int32} {s0 : CS} {Q : Int32 → Prop} (h : ∀ (r : Int32), Q r) : wp_X5_cellsOfHoles p0 s0 Q := by
  unfold wp_X5_cellsOfHoles
  repeat' (first
    | with_reducible exact h _
    | (unfold B_X5_cellsOfHoles_4; refine LOOP_m0 (fun a z => 0 ≤ (z.2.2).toInt ∧ z.1 = a.1) (fun z => (((5 : Int32)).toInt - (z.2.2).toInt).toNat) _ ⟨by first | with_reducible exact i0_ok | with_reducible exact i1_ok, rfl⟩ ?_; rintro ⟨x1', x2, x3⟩ G_4 ⟨h0_4, hx_x1⟩ hG_4; change LB_X5_cellsOfHoles_4 G_4  s0 x1' x2 x3 Q; try dsimp only at h0_4; try dsimp only at hx_x1; subst hx_x1; unfold LB_X5_cellsOfHoles_4; refine And.intro (fun e_4 => ?_) (fun c_4 => ?_))
    | with_reducible refine And.intro ?_ ?_
    | (exact vin_ok (5 : Int32) l_5 h0_4 c_4)
    | (refine vin_ok2 (5 : Int32) l_5 ?_ ?_ <;> assumption)
    | (refine vin_lt (5 : Int32) l_5 ?_ ?_ <;> assumption)
    | (refine vin_ok (5 : Int32) l_5 ?_ ?_ <;> assumption)
    | (unfold vp_in; decide)
    | (intro _ e9; subst e9)
    | intro _
    | unfold B_X5_cellsOfHoles_26
    | exact hG_4 _ ⟨(step_ok h0_4 c_4).1, rfl⟩ (step_ok h0_4 c_4).2)
set_option maxHeartbeats 400000 in
theorem sf_X5_holeCells {s0 : CS} {Q : Int32 → Prop} (h : ∀ (r : Int32), Q r) : wp_X5_holeCells s0 Q := by
  unfold wp_X5_holeCells
  repeat' (first
    | with_reducible exact h _
    | (unfold B_X5_holeCells_4; refine LOOP_m0 (fun a z => 0 ≤ (z.2).toInt) (fun z => (((5 : Int32)).toInt - (z.2).toInt).toNat) _ (by first | with_reducible exact i0_ok | with_reducible exact i1_ok) ?_; rintro ⟨x1, x2⟩ G_4 h0_4 hG_4; change LB_X5_holeCells_4 G_4  s0 x1 x2 Q; try dsimp only at h0_4; unfold LB_X5_holeCells_4; refine And.intro (fun e_4 => ?_) (fun c_4 => ?_))
    | with_reducible refine And.intro ?_ ?_
    | (exact vin_ok (5 : Int32) l_5 h0_4 c_4)
    | (refine vin_ok2 (5 : Int32) l_5 ?_ ?_ <;> assumption)
    | (refine vin_lt (5 : Int32) l_5 ?_ ?_ <;> assumption)
    | (refine vin_ok (5 : Int32) l_5 ?_ ?_ <;> assumption)
    | (unfold vp_in; decide)
    | (intro _ e9; subst e9)
    | intro _
    | exact hG_4 _ (step_ok h0_4 c_4).1 (step_ok h0_4 c_4).2)
set_option maxHeartbeats 400000 in
theorem sf_X5_holeCellsOf {p0 : Int32} {s0 : CS} {Q : Int32 → Prop} (h : ∀ (r : Int32), Q r) : wp_X5_holeCellsOf p0 s0 Q := by
  unfold wp_X5_holeCellsOf
  repeat' (first
    | with_reducible exact h _
    | with_reducible refine And.intro ?_ ?_
    | with_reducible refine sf_X5_holesOf ?_
    | with_reducible refine sf_X5_cellsOfHoles ?_
    | with_reducible refine sf_J6_bitCount_0f7a4 ?_
    | (intro _ e9; subst e9)
    | intro _)
set_option maxHeartbeats 400000 in
theorem sf_X5_openCells {s0 : CS} {Q : Int32 → Prop} (h : ∀ (r : Int32), Q r) : wp_X5_openCells s0 Q := by
  unfold wp_X5_openCells
  repeat' (first
    | with_reducible exact h _
    | with_reducible refine And.intro ?_ ?_
    | with_reducible refine sf_X5_holeCells ?_
    | (intro _ e9; subst e9)
    | intro _)
set_option maxHeartbeats 400000 in
theorem sf_X5_openBut {p0 : Int32} {s0 : CS} {Q : Int32 → Prop} (h : ∀ (r : Int32), Q r) : wp_X5_openBut p0 s0 Q := by
  unfold wp_X5_openBut
  repeat' (first
    | with_reducible exact h _
    | with_reducible refine And.intro ?_ ?_
    | with_reducible refine sf_X5_cellsOfHoles ?_
    | (intro _ e9; subst e9)
    | intro _)
set_option maxHeartbeats 400000 in
theorem sf_X5_pasteCells {s0 : CS} {Q : Int32 → Prop} (h : ∀ (r : Int32), Q r) : wp_X5_pasteCells s0 Q := by
  unfold wp_X5_pasteCells
  repeat' (first
    | with_reducible exact h _
    | with_reducible refine And.intro ?_ ?_
    | with_reducible refine sf_X5_holeCells ?_
    | (intro _ e9; subst e9)
    | intro _)
set_option maxHeartbeats 400000 in
theorem sf_X5_softPaste {s0 : CS} {s1 : CS} {Q : Int32 → Prop} (h : ∀ (r : Int32), Q r) : wp_X5_softPaste s0 s1 Q := by
  unfold wp_X5_softPaste
  repeat' (first
    | with_reducible exact h _
    | with_reducible refine And.intro ?_ ?_
    | with_reducible refine sf_X5_holeCells ?_
    | (intro _ e9; subst e9)
    | intro _)
set_option maxHeartbeats 400000 in
theorem sf_X5_ownedBy {p1 : Int32} {s0 : CS} {s1 : CS} {Q : Int32 → Prop} (h : ∀ (r : Int32), Q r) : wp_X5_ownedBy p1 s0 s1 Q := by
  unfold wp_X5_ownedBy
  repeat' (first
    | with_reducible exact h _
    | (unfold B_X5_ownedBy_14; refine LOOP_m0 (fun a z => 0 ≤ (z.2.2).toInt ∧ z.1 = a.1) (fun z => (((5 : Int32)).toInt - (z.2.2).toInt).toNat) _ ⟨by first | with_reducible exact i0_ok | with_reducible exact i1_ok, rfl⟩ ?_; rintro ⟨x2', x3, x4⟩ G_14 ⟨h0_14, hx_x2⟩ hG_14; change LB_X5_ownedBy_14 G_14  s0 s1 x2' x3 x4 Q; try dsimp only at h0_14; try dsimp only at hx_x2; subst hx_x2; unfold LB_X5_ownedBy_14; refine And.intro (fun e_14 => ?_) (fun c_14 => ?_))
    | with_reducible refine And.intro ?_ ?_
    | (exact vin_ok (5 : Int32) l_5 h0_14 c_14)
    | (refine vin_ok2 (5 : Int32) l_5 ?_ ?_ <;> assumption)
    | (refine vin_lt (5 : Int32) l_5 ?_ ?_ <;> assumption)
    | (refine vin_ok (5 : Int32) l_5 ?_ ?_ <;> assumption)
    | (unfold vp_in; decide)
    | with_reducible refine sf_X1_hasOwner ?_
    | with_reducible refine sf_X1_rowCellsOf ?_
    | with_reducible refine sf_X5_pasteCells ?_
    | (intro _ e9; subst e9)
    | intro _
    | unfold B_X5_ownedBy_57
    | exact hG_14 _ ⟨(step_ok h0_14 c_14).1, rfl⟩ (step_ok h0_14 c_14).2)
set_option maxHeartbeats 400000 in
theorem sf_X5_stuffAt {p0 : Int32} {s0 : CS} {Q : Int32 → Prop} (h : ∀ (r : Int32), Q r) : wp_X5_stuffAt p0 s0 Q := by
  unfold wp_X5_stuffAt
  repeat' (first
    | with_reducible exact h _
    | with_reducible refine And.intro ?_ ?_
    | with_reducible refine sf_X2_bitOf ?_
    | with_reducible refine sf_X5_holeCells ?_
    | (intro _ e9; subst e9)
    | intro _)
set_option maxHeartbeats 400000 in
theorem sf_X5_holeAt {p0 : Int32} {s0 : CS} {Q : Int32 → Prop} (h : ∀ (r : Int32), Q r) : wp_X5_holeAt p0 s0 Q := by
  unfold wp_X5_holeAt
  repeat' (first
    | with_reducible exact h _
    | (unfold B_X5_holeAt_7; refine LOOP_m0 (fun a z => 0 ≤ (z.2).toInt ∧ z.1 = a.1) (fun z => (((5 : Int32)).toInt - (z.2).toInt).toNat) _ ⟨by first | with_reducible exact i0_ok | with_reducible exact i1_ok, rfl⟩ ?_; rintro ⟨x2', x3⟩ G_7 ⟨h0_7, hx_x2⟩ hG_7; change LB_X5_holeAt_7 G_7  s0 x2' x3 Q; try dsimp only at h0_7; try dsimp only at hx_x2; subst hx_x2; unfold LB_X5_holeAt_7; refine And.intro (fun e_7 => ?_) (fun c_7 => ?_))
    | with_reducible refine And.intro ?_ ?_
    | (exact vin_ok (5 : Int32) l_5 h0_7 c_7)
    | (refine vin_ok2 (5 : Int32) l_5 ?_ ?_ <;> assumption)
    | (refine vin_lt (5 : Int32) l_5 ?_ ?_ <;> assumption)
    | (refine vin_ok (5 : Int32) l_5 ?_ ?_ <;> assumption)
    | (unfold vp_in; decide)
    | with_reducible refine sf_X2_bitOf ?_
    | (intro _ e9; subst e9)
    | intro _
    | exact hG_7 _ ⟨(step_ok h0_7 c_7).1, rfl⟩ (step_ok h0_7 c_7).2)
set_option maxHeartbeats 400000 in
theorem sf_X5_ownerAt {p1 : Int32} {s0 : CS} {s1 : CS} {Q : Int32 → Prop} (h : ∀ (r : Int32), Q r) : wp_X5_ownerAt p1 s0 s1 Q := by
  unfold wp_X5_ownerAt
  repeat' (first
    | with_reducible exact h _
    | with_reducible refine And.intro ?_ ?_
    | with_reducible refine sf_X3_get (by decide) ?_
    | with_reducible refine sf_X5_holeAt ?_
    | with_reducible refine sf_X5_pasteCells ?_
    | with_reducible refine sf_X2_bitOf ?_
    | (intro _ e9; subst e9)
    | intro _
    | unfold B_X5_ownerAt_38)
set_option maxHeartbeats 400000 in
theorem sf_X5_pay {p0 : Int32} {p1 : Int32} {p2 : Int32} {s0 : CS} {Q : CS → Prop} (h : ∀ (v0 : CS), Q v0) : wp_X5_pay p0 p1 p2 s0 Q := by
  unfold wp_X5_pay
  repeat' (first
    | with_reducible exact h _
    | with_reducible refine And.intro ?_ ?_
    | with_reducible refine sf_X3_add (by decide) ?_
    | (intro _ e9; subst e9)
    | intro _)
set_option maxHeartbeats 400000 in
theorem sf_X5_takeLeast {p1 : Int32} {s0 : CS} {s1 : CS} {Q : CS → CS → Prop} (h : ∀ (v0 : CS), Q v0 s1) : wp_X5_takeLeast p1 s0 s1 Q := by
  unfold wp_X5_takeLeast
  repeat' (first
    | with_reducible exact h _
    | with_reducible refine And.intro ?_ ?_
    | with_reducible refine sf_X5_softPaste ?_
    | with_reducible refine sf_X2_leastOf ?_
    | with_reducible refine sf_J6_bitCount_0f7a4 ?_
    | with_reducible refine sf_X3_get (by decide) ?_
    | with_reducible refine sf_X5_pay ?_
    | with_reducible refine sf_X3_put (by decide) ?_
    | with_reducible refine sf_X2_beside ?_
    | with_reducible refine sf_X2_columnsOf ?_
    | with_reducible refine sf_X5_cellsOfHole ?_
    | (intro _ e9; subst e9)
    | intro _
    | unfold B_X5_takeLeast_41
    | unfold B_X5_takeLeast_23)
set_option maxHeartbeats 400000 in
theorem sf_X5_endOwning {p0 : Int32} {s0 : CS} {Q : CS → Prop} (h : ∀ (v0 : CS), Q v0) : wp_X5_endOwning p0 s0 Q := by
  unfold wp_X5_endOwning
  repeat' (first
    | with_reducible exact h _
    | with_reducible refine And.intro ?_ ?_
    | with_reducible refine sf_X3_put (by decide) ?_
    | (intro _ e9; subst e9)
    | intro _)
set_option maxHeartbeats 400000 in
theorem sf_X5_joinPair {p0 : Int32} {p1 : Int32} {s0 : CS} {Q : CS → Prop} (h : ∀ (v0 : CS), Q v0) : wp_X5_joinPair p0 p1 s0 Q := by
  unfold wp_X5_joinPair
  repeat' (first
    | with_reducible exact h _
    | with_reducible refine And.intro ?_ ?_
    | with_reducible refine sf_X5_cellsOfHole ?_
    | with_reducible refine sf_X3_put (by decide) ?_
    | with_reducible refine sf_X5_endOwning ?_
    | with_reducible refine sf_X5_sizeOfHole ?_
    | (intro _ e9; subst e9)
    | intro _
    | unfold B_X5_joinPair_39
    | unfold B_X5_joinPair_28
    | unfold B_X5_joinPair_18)
set_option maxHeartbeats 400000 in
theorem sf_X5_joinFirstPair {s0 : CS} {Q : Int32 → CS → Prop} (h : ∀ (r : Int32) (hr : r = 0 ∨ r = 1) (v0 : CS), Q r v0) : wp_X5_joinFirstPair s0 Q := by
  unfold wp_X5_joinFirstPair
  repeat' (first
    | with_reducible exact h _ (Or.inl rfl) _
    | with_reducible exact h _ (Or.inr rfl) _
    | with_reducible exact h _ (by assumption) _
    | (unfold B_X5_joinFirstPair_21; refine LOOP_m0 (fun a z => 0 ≤ (z.2.2.1).toInt ∧ z.1 = a.1 ∧ z.2.1 = a.2.1) (fun z => (((5 : Int32)).toInt - (z.2.2.1).toInt).toNat) _ ⟨by first | with_reducible exact i0_ok | with_reducible exact i1_ok | exact (step_ok h0_2 c_2).1, rfl, rfl⟩ ?_; rintro ⟨x1', x2', x3, s0⟩ G_21 ⟨h0_21, hx_x1, hx_x2⟩ hG_21; change LB_X5_joinFirstPair_21 G_21 _  x1' x2' x3 s0 Q; try dsimp only at h0_21; try dsimp only at hx_x1; subst hx_x1; try dsimp only at hx_x2; subst hx_x2; unfold LB_X5_joinFirstPair_21; refine And.intro (fun e_21 => ?_) (fun c_21 => ?_))
    | (unfold B_X5_joinFirstPair_2; refine LOOP_m0 (fun a z => 0 ≤ (z.1).toInt) (fun z => (((5 : Int32)).toInt - (z.1).toInt).toNat) _ (by first | with_reducible exact i0_ok | with_reducible exact i1_ok) ?_; rintro ⟨x1, s0⟩ G_2 h0_2 hG_2; change LB_X5_joinFirstPair_2 G_2   x1 s0 Q; try dsimp only at h0_2; unfold LB_X5_joinFirstPair_2; refine And.intro (fun e_2 => ?_) (fun c_2 => ?_))
    | with_reducible refine And.intro ?_ ?_
    | (exact vin_ok (5 : Int32) l_5 h0_21 c_21)
    | (exact vin_ok (5 : Int32) l_5 h0_2 c_2)
    | (refine vin_ok2 (5 : Int32) l_5 ?_ ?_ <;> assumption)
    | (refine vin_lt (5 : Int32) l_5 ?_ ?_ <;> assumption)
    | (refine vin_ok (5 : Int32) l_5 ?_ ?_ <;> assumption)
    | (unfold vp_in; decide)
    | with_reducible refine sf_X5_joinPair ?_
    | with_reducible refine sf_X2_beside ?_
    | (intro _ e9; subst e9)
    | intro _
    | exact hG_21 _ ⟨(step_ok h0_21 c_21).1, rfl, rfl⟩ (step_ok h0_21 c_21).2
    | exact hG_2 _ (step_ok h0_2 c_2).1 (step_ok h0_2 c_2).2)
set_option maxHeartbeats 400000 in
theorem sf_X5_payRent {p1 : Int32} {s0 : CS} {s1 : CS} {Q : CS → CS → Prop} (h : ∀ (v0 : CS), Q v0 s1) : wp_X5_payRent p1 s0 s1 Q := by
  unfold wp_X5_payRent
  repeat' (first
    | with_reducible exact h _
    | with_reducible refine And.intro ?_ ?_
    | with_reducible refine sf_X3_get (by decide) ?_
    | with_reducible refine sf_X5_pay ?_
    | with_reducible refine sf_X1_hasOwner ?_
    | with_reducible refine sf_X5_sizeOfHole ?_
    | (intro _ e9; subst e9)
    | intro _
    | unfold B_X5_payRent_43)
set_option maxHeartbeats 400000 in
theorem sf_X5_passDay {s0 : CS} {s1 : CS} {Q : Int32 → CS → CS → Prop} (h : ∀ (r : Int32) (v0 : CS), Q r v0 s1) : wp_X5_passDay s0 s1 Q := by
  unfold wp_X5_passDay
  repeat' (first
    | with_reducible exact h _ _
    | (unfold B_X5_passDay_62; refine LOOP_m0 (fun a z => 0 ≤ (z.2.1).toInt ∧ z.1 = a.1 ∧ z.2.2.2 = a.2.2.2) (fun z => (((5 : Int32)).toInt - (z.2.1).toInt).toNat) _ ⟨by first | with_reducible exact i0_ok | with_reducible exact i1_ok, rfl, rfl⟩ ?_; rintro ⟨x2', x3, s0, s1'⟩ G_62 ⟨h0_62, hx_x2, hx_s1⟩ hG_62; change LB_X5_passDay_62 G_62   x2' x3 s0 s1' Q; try dsimp only at h0_62; try dsimp only at hx_x2; subst hx_x2; try dsimp only at hx_s1; subst hx_s1; unfold LB_X5_passDay_62; refine And.intro (fun e_62 => ?_) (fun c_62 => ?_))
    | (unfold B_X5_passDay_42; refine LOOP_m0 (fun a z => 0 ≤ (z.1).toInt ∧ z.2.2 = a.2.2) (fun z => (((5 : Int32)).toInt - (z.1).toInt).toNat) _ ⟨by first | with_reducible exact i0_ok | with_reducible exact i1_ok, rfl⟩ ?_; rintro ⟨x2, s0, s1'⟩ G_42 ⟨h0_42, hx_s1⟩ hG_42; change LB_X5_passDay_42 G_42   x2 s0 s1' Q; try dsimp only at h0_42; try dsimp only at hx_s1; subst hx_s1; unfold LB_X5_passDay_42; refine And.intro (fun e_42 => ?_) (fun c_42 => ?_))
    | (unfold B_X5_passDay_16; refine LOOP_m0 (fun a z => 0 ≤ (z.2.2.1).toInt ∧ z.1 = a.1 ∧ z.2.1 = a.2.1 ∧ z.2.2.2.2 = a.2.2.2.2) (fun z => ((z.2.1).toInt - (z.2.2.1).toInt).toNat) _ ⟨by first | with_reducible exact i0_ok | with_reducible exact i1_ok | exact (step_ok h0_2 c_2).1, rfl, rfl, rfl⟩ ?_; rintro ⟨x2', x3', x4, s0, s1'⟩ G_16 ⟨h0_16, hx_x2, hx_x3, hx_s1⟩ hG_16; change LB_X5_passDay_16 G_16 _  x2' x3' x4 s0 s1' Q; try dsimp only at h0_16; try dsimp only at hx_x2; subst hx_x2; try dsimp only at hx_x3; subst hx_x3; try dsimp only at hx_s1; subst hx_s1; unfold LB_X5_passDay_16; refine And.intro (fun e_16 => ?_) (fun c_16 => ?_))
    | (unfold B_X5_passDay_2; refine LOOP_m0 (fun a z => 0 ≤ (z.1).toInt ∧ z.2.2 = a.2.2) (fun z => (((5 : Int32)).toInt - (z.1).toInt).toNat) _ ⟨by first | with_reducible exact i0_ok | with_reducible exact i1_ok, rfl⟩ ?_; rintro ⟨x2, s0, s1'⟩ G_2 ⟨h0_2, hx_s1⟩ hG_2; change LB_X5_passDay_2 G_2   x2 s0 s1' Q; try dsimp only at h0_2; try dsimp only at hx_s1; subst hx_s1; unfold LB_X5_passDay_2; refine And.intro (fun e_2 => ?_) (fun c_2 => ?_))
    | with_reducible refine And.intro ?_ ?_
    | with_reducible refine sf_X5_payRent ?_
    | with_reducible refine sf_X5_joinFirstPair ?_
    | with_reducible refine sf_X5_takeLeast ?_
    | with_reducible refine sf_X1_turnsOf ?_
    | (intro _ e9; subst e9)
    | intro _
    | unfold B_X5_passDay_60
    | exact hG_62 _ ⟨(step_ok h0_62 c_62).1, rfl, rfl⟩ (step_ok h0_62 c_62).2
    | exact hG_42 _ ⟨(step_ok h0_42 c_42).1, rfl⟩ (step_ok h0_42 c_42).2
    | exact hG_16 _ ⟨(step_ok h0_16 c_16).1, rfl, rfl, rfl⟩ (step_ok h0_16 c_16).2
    | exact hG_2 _ ⟨(step_ok h0_2 c_2).1, rfl⟩ (step_ok h0_2 c_2).2)
set_option maxHeartbeats 400000 in
theorem sf_X5_refusalToEat {p1 : Int32} {p2 : Int32} {s0 : CS} {s1 : CS} {Q : Int32 → Prop} (h : ∀ (r : Int32), Q r) : wp_X5_refusalToEat p1 p2 s0 s1 Q := by
  unfold wp_X5_refusalToEat
  repeat' (first
    | with_reducible exact h _
    | with_reducible refine And.intro ?_ ?_
    | with_reducible refine sf_X1_hasOwner ?_
    | with_reducible refine sf_X2_hasCell ?_
    | with_reducible refine sf_X2_bitOf ?_
    | (intro _ e9; subst e9)
    | intro _)
set_option maxHeartbeats 400000 in
theorem sf_X5_eatCell {p1 : Int32} {p2 : Int32} {s0 : CS} {s1 : CS} {Q : Int32 → CS → CS → Prop} (h : ∀ (r : Int32) (v0 : CS), Q r v0 s1) : wp_X5_eatCell p1 p2 s0 s1 Q := by
  unfold wp_X5_eatCell
  repeat' (first
    | with_reducible exact h _ _
    | (unfold B_X5_eatCell_57; refine LOOP_m0 (fun a z => 0 ≤ (z.2.2.1).toInt ∧ z.1 = a.1 ∧ z.2.1 = a.2.1 ∧ z.2.2.2.2 = a.2.2.2.2) (fun z => (((5 : Int32)).toInt - (z.2.2.1).toInt).toNat) _ ⟨by first | with_reducible exact i0_ok | with_reducible exact i1_ok, rfl, rfl, rfl⟩ ?_; rintro ⟨x4', x5', x7, s0, s1'⟩ G_57 ⟨h0_57, hx_x4, hx_x5, hx_s1⟩ hG_57; change LB_X5_eatCell_57 G_57   x4' x5' x7 s0 s1' Q; try dsimp only at h0_57; try dsimp only at hx_x4; subst hx_x4; try dsimp only at hx_x5; subst hx_x5; try dsimp only at hx_s1; subst hx_s1; unfold LB_X5_eatCell_57; refine And.intro (fun e_57 => ?_) (fun c_57 => ?_))
    | with_reducible refine And.intro ?_ ?_
    | (exact vin_ok (5 : Int32) l_5 h0_57 c_57)
    | (refine vin_ok2 (5 : Int32) l_5 ?_ ?_ <;> assumption)
    | (refine vin_lt (5 : Int32) l_5 ?_ ?_ <;> assumption)
    | (refine vin_ok (5 : Int32) l_5 ?_ ?_ <;> assumption)
    | (unfold vp_in; decide)
    | with_reducible refine sf_X5_endOwning ?_
    | with_reducible refine sf_X5_pay ?_
    | with_reducible refine sf_X2_bitOf ?_
    | with_reducible refine sf_X5_ownerAt ?_
    | with_reducible refine sf_X5_stuffAt ?_
    | with_reducible refine sf_X3_get (by decide) ?_
    | (intro _ e9; subst e9)
    | intro _
    | unfold B_X5_eatCell_93
    | unfold B_X5_eatCell_54
    | unfold B_X5_eatCell_39
    | unfold B_X5_eatCell_38
    | exact hG_57 _ ⟨(step_ok h0_57 c_57).1, rfl, rfl, rfl⟩ (step_ok h0_57 c_57).2)
set_option maxHeartbeats 400000 in
theorem sf_X5_refusalToSell {p1 : Int32} {p2 : Int32} {s0 : CS} {s1 : CS} {Q : Int32 → Prop} (h : ∀ (r : Int32), Q r) : wp_X5_refusalToSell p1 p2 s0 s1 Q := by
  unfold wp_X5_refusalToSell
  repeat' (first
    | with_reducible exact h _
    | with_reducible refine And.intro ?_ ?_
    | with_reducible refine sf_X1_hasHole ?_
    | with_reducible refine sf_X1_hasOwner ?_
    | with_reducible refine sf_X5_isGone ?_
    | with_reducible refine sf_X3_get (by decide) ?_
    | (intro _ e9; subst e9)
    | intro _
    | unfold B_X5_refusalToSell_38)
set_option maxHeartbeats 400000 in
theorem sf_X5_refusalToLet {p1 : Int32} {p2 : Int32} {s0 : CS} {s1 : CS} {Q : Int32 → Prop} (h : ∀ (r : Int32), Q r) : wp_X5_refusalToLet p1 p2 s0 s1 Q := by
  unfold wp_X5_refusalToLet
  repeat' (first
    | with_reducible exact h _
    | with_reducible refine And.intro ?_ ?_
    | with_reducible refine sf_X5_refusalToSell ?_
    | with_reducible refine sf_X3_get (by decide) ?_
    | (intro _ e9; subst e9)
    | intro _)
set_option maxHeartbeats 400000 in
theorem sf_X5_letHole {p0 : Int32} {p1 : Int32} {s0 : CS} {Q : Int32 → CS → Prop} (h : ∀ (r : Int32) (v0 : CS), Q r v0) : wp_X5_letHole p0 p1 s0 Q := by
  unfold wp_X5_letHole
  repeat' (first
    | with_reducible exact h _ _
    | with_reducible refine And.intro ?_ ?_
    | with_reducible refine sf_X3_get (by decide) ?_
    | with_reducible refine sf_X3_put (by decide) ?_
    | (intro _ e9; subst e9)
    | intro _)
set_option maxHeartbeats 400000 in
theorem sf_X5_sellHole {p0 : Int32} {p1 : Int32} {s0 : CS} {Q : Int32 → CS → Prop} (h : ∀ (r : Int32) (v0 : CS), Q r v0) : wp_X5_sellHole p0 p1 s0 Q := by
  unfold wp_X5_sellHole
  repeat' (first
    | with_reducible exact h _ _
    | with_reducible refine And.intro ?_ ?_
    | with_reducible refine sf_X5_sizeOfHole ?_
    | with_reducible refine sf_X3_get (by decide) ?_
    | with_reducible refine sf_X5_pay ?_
    | with_reducible refine sf_X3_put (by decide) ?_
    | (intro _ e9; subst e9)
    | intro _)
set_option maxHeartbeats 400000 in
theorem sf_X5_doTold {p1 : Int32} {s0 : CS} {s1 : CS} {Q : Int32 → CS → CS → Prop} (h : ∀ (r : Int32) (hr : r = 0 ∨ r = 1) (v0 : CS), Q r v0 s1) : wp_X5_doTold p1 s0 s1 Q := by
  unfold wp_X5_doTold
  repeat' (first
    | with_reducible exact h _ (Or.inl rfl) _
    | with_reducible exact h _ (Or.inr rfl) _
    | with_reducible exact h _ (by assumption) _
    | with_reducible refine And.intro ?_ ?_
    | with_reducible refine sf_X5_passDay ?_
    | with_reducible refine sf_X5_refusalToEat ?_
    | with_reducible refine sf_X5_eatCell ?_
    | with_reducible refine sf_X5_refusalToLet ?_
    | with_reducible refine sf_X5_letHole ?_
    | with_reducible refine sf_X5_refusalToSell ?_
    | with_reducible refine sf_X5_sellHole ?_
    | (intro _ e9; subst e9)
    | intro _)
