set_option maxHeartbeats 400000 in
theorem sf_X7_in {p0 : Int64} {p1 : Int64} {p2 : Int64} {Q : Int32 → Prop} (h : ∀ (r : Int32) (hr : r = 0 ∨ r = 1), Q r) : wp_X7_in p0 p1 p2 Q := by
  unfold wp_X7_in
  repeat' (first
    | with_reducible exact h _ (Or.inl rfl)
    | with_reducible exact h _ (Or.inr rfl)
    | with_reducible exact h _ (by assumption)
    | with_reducible refine And.intro ?_ ?_
    | (intro _ e9; subst e9)
    | intro _)
set_option maxHeartbeats 400000 in
theorem sf_X7_has {p0 : Int32} {p1 : Int32} {Q : Int32 → Prop} (h : ∀ (r : Int32) (hr : r = 0 ∨ r = 1), Q r) : wp_X7_has p0 p1 Q := by
  unfold wp_X7_has
  repeat' (first
    | with_reducible exact h _ (Or.inl rfl)
    | with_reducible exact h _ (Or.inr rfl)
    | with_reducible exact h _ (by assumption)
    | with_reducible refine And.intro ?_ ?_
    | (intro _ e9; subst e9)
    | intro _)
set_option maxHeartbeats 400000 in
theorem sf_X7_ones {p0 : Int32} {Q : Int32 → Prop} (h : ∀ (r : Int32), Q r) : wp_X7_ones p0 Q := by
  unfold wp_X7_ones
  repeat' (first
    | with_reducible exact h _
    | (unfold B_X7_ones_4; refine LOOP_m0 (fun a z => 0 ≤ (z.2.2).toInt ∧ z.1 = a.1) (fun z => (((20 : Int32)).toInt - (z.2.2).toInt).toNat) _ ⟨by first | with_reducible exact i0_ok | with_reducible exact i1_ok, rfl⟩ ?_; rintro ⟨x0', x1, x2⟩ G_4 ⟨h0_4, hx_x0⟩ hG_4; change LB_X7_ones_4 G_4   x0' x1 x2 Q; try dsimp only at h0_4; try dsimp only at hx_x0; subst hx_x0; unfold LB_X7_ones_4; refine And.intro (fun e_4 => ?_) (fun c_4 => ?_))
    | with_reducible refine And.intro ?_ ?_
    | (intro _ e9; subst e9)
    | intro _
    | exact hG_4 _ ⟨(step_ok h0_4 c_4).1, rfl⟩ (step_ok h0_4 c_4).2)
set_option maxHeartbeats 400000 in
theorem sf_X7_isOwner {p0 : Int32} {s0 : CS} {Q : Int32 → Prop} (h : ∀ (r : Int32) (hr : r = 0 ∨ r = 1), Q r) : wp_X7_isOwner p0 s0 Q := by
  unfold wp_X7_isOwner
  repeat' (first
    | with_reducible exact h _ (Or.inl rfl)
    | with_reducible exact h _ (Or.inr rfl)
    | with_reducible exact h _ (by assumption)
    | with_reducible exact nar_ok (by assumption)
    | with_reducible refine And.intro ?_ ?_
    | with_reducible refine sf_X7_in ?_
    | (intro _ e9; subst e9)
    | intro _)
set_option maxHeartbeats 400000 in
theorem sf_X7_isHole {p0 : Int32} {s0 : CS} {Q : Int32 → Prop} (h : ∀ (r : Int32) (hr : r = 0 ∨ r = 1), Q r) : wp_X7_isHole p0 s0 Q := by
  unfold wp_X7_isHole
  repeat' (first
    | with_reducible exact h _ (Or.inl rfl)
    | with_reducible exact h _ (Or.inr rfl)
    | with_reducible exact h _ (by assumption)
    | with_reducible exact nar_ok (by assumption)
    | with_reducible refine And.intro ?_ ?_
    | with_reducible refine sf_X7_in ?_
    | (intro _ e9; subst e9)
    | intro _)
set_option maxHeartbeats 400000 in
theorem sf_X7_isCell {p0 : Int32} {Q : Int32 → Prop} (h : ∀ (r : Int32) (hr : r = 0 ∨ r = 1), Q r) : wp_X7_isCell p0 Q := by
  unfold wp_X7_isCell
  repeat' (first
    | with_reducible exact h _ (Or.inl rfl)
    | with_reducible exact h _ (Or.inr rfl)
    | with_reducible exact h _ (by assumption)
    | with_reducible exact nar_ok (by assumption)
    | with_reducible refine And.intro ?_ ?_
    | with_reducible refine sf_X7_in ?_
    | (intro _ e9; subst e9)
    | intro _)
set_option maxHeartbeats 400000 in
theorem sf_X7_beside {p0 : Int32} {Q : Int32 → Prop} (h : ∀ (r : Int32), Q r) : wp_X7_beside p0 Q := by
  unfold wp_X7_beside
  repeat' (first
    | with_reducible exact h _
    | (unfold B_X7_beside_12; refine LOOP_m0 (fun a z => 0 ≤ (z.2.2.2).toInt ∧ z.1 = a.1 ∧ z.2.1 = a.2.1) (fun z => (((4 : Int32)).toInt - (z.2.2.2).toInt).toNat) _ ⟨by first | with_reducible exact i0_ok | with_reducible exact i1_ok, rfl, rfl⟩ ?_; rintro ⟨x0', x1', x2, x3⟩ G_12 ⟨h0_12, hx_x0, hx_x1⟩ hG_12; change LB_X7_beside_12 G_12   x0' x1' x2 x3 Q; try dsimp only at h0_12; try dsimp only at hx_x0; subst hx_x0; try dsimp only at hx_x1; subst hx_x1; unfold LB_X7_beside_12; refine And.intro (fun e_12 => ?_) (fun c_12 => ?_))
    | with_reducible refine And.intro ?_ ?_
    | (intro _ e9; subst e9)
    | intro _
    | exact hG_12 _ ⟨(step_ok h0_12 c_12).1, rfl, rfl⟩ (step_ok h0_12 c_12).2)
set_option maxHeartbeats 400000 in
theorem sf_X7_least {p0 : Int32} {Q : Int32 → Prop} (h : ∀ (r : Int32), Q r) : wp_X7_least p0 Q := by
  unfold wp_X7_least
  repeat' (first
    | with_reducible exact h _
    | (unfold B_X7_least_2; refine LOOP_m0 (fun a z => 0 ≤ (z.2).toInt ∧ z.1 = a.1) (fun z => (((20 : Int32)).toInt - (z.2).toInt).toNat) _ ⟨by first | with_reducible exact i0_ok | with_reducible exact i1_ok, rfl⟩ ?_; rintro ⟨x0', x1⟩ G_2 ⟨h0_2, hx_x0⟩ hG_2; change LB_X7_least_2 G_2   x0' x1 Q; try dsimp only at h0_2; try dsimp only at hx_x0; subst hx_x0; unfold LB_X7_least_2; refine And.intro (fun e_2 => ?_) (fun c_2 => ?_))
    | with_reducible refine And.intro ?_ ?_
    | with_reducible refine sf_X7_has ?_
    | (intro _ e9; subst e9)
    | intro _
    | exact hG_2 _ ⟨(step_ok h0_2 c_2).1, rfl⟩ (step_ok h0_2 c_2).2)
set_option maxHeartbeats 400000 in
theorem sf_X7_takes {p0 : Int32} {p1 : Int32} {p2 : Int32} {s0 : CS} {Q : Int32 → Prop} (h : ∀ (r : Int32), Q r) : wp_X7_takes p0 p1 p2 s0 Q := by
  unfold wp_X7_takes
  repeat' (first
    | with_reducible exact h _
    | with_reducible refine And.intro ?_ ?_
    | with_reducible refine sf_X7_least ?_
    | with_reducible refine sf_X7_beside ?_
    | (intro _ e9; subst e9)
    | intro _
    | unfold B_X7_takes_22)
set_option maxHeartbeats 400000 in
theorem sf_X7_stepsBy {p0 : Int32} {p1 : Int32} {p2 : Int32} {Q : Int32 → Prop} (h : ∀ (r : Int32), Q r) : wp_X7_stepsBy p0 p1 p2 Q := by
  unfold wp_X7_stepsBy
  repeat' (first
    | with_reducible exact h _
    | (unfold B_X7_stepsBy_9; refine LOOP_m0 (fun a z => 0 ≤ (z.2.2.2).toInt ∧ z.1 = a.1 ∧ z.2.1 = a.2.1) (fun z => (((20 : Int32)).toInt - (z.2.2.2).toInt).toNat) _ ⟨by first | with_reducible exact i0_ok | with_reducible exact i1_ok, rfl, rfl⟩ ?_; rintro ⟨x1', x2', x3, x4⟩ G_9 ⟨h0_9, hx_x1, hx_x2⟩ hG_9; change LB_X7_stepsBy_9 G_9   x1' x2' x3 x4 Q; try dsimp only at h0_9; try dsimp only at hx_x1; subst hx_x1; try dsimp only at hx_x2; subst hx_x2; unfold LB_X7_stepsBy_9; refine And.intro (fun e_9 => ?_) (fun c_9 => ?_))
    | with_reducible refine And.intro ?_ ?_
    | with_reducible refine sf_X7_has ?_
    | with_reducible refine sf_X7_beside ?_
    | (intro _ e9; subst e9)
    | intro _
    | exact hG_9 _ ⟨(step_ok h0_9 c_9).1, rfl, rfl⟩ (step_ok h0_9 c_9).2)
set_option maxHeartbeats 400000 in
theorem sf_X7_power {p0 : Int64} {p1 : Int32} {Q : Int64 → Prop} (h : ∀ (r : Int64), Q r) : wp_X7_power p0 p1 Q := by
  unfold wp_X7_power
  repeat' (first
    | with_reducible exact h _
    | (unfold B_X7_power_5; refine LOOP_m0 (fun a z => 0 ≤ (z.2.2.2).toInt ∧ z.1 = a.1 ∧ z.2.1 = a.2.1) (fun z => ((z.2.1).toInt - (z.2.2.2).toInt).toNat) _ ⟨by first | with_reducible exact i0_ok | with_reducible exact i1_ok, rfl, rfl⟩ ?_; rintro ⟨x0', x2', x3, x5⟩ G_5 ⟨h0_5, hx_x0, hx_x2⟩ hG_5; change LB_X7_power_5 G_5   x0' x2' x3 x5 Q; try dsimp only at h0_5; try dsimp only at hx_x0; subst hx_x0; try dsimp only at hx_x2; subst hx_x2; unfold LB_X7_power_5; refine And.intro (fun e_5 => ?_) (fun c_5 => ?_))
    | with_reducible refine And.intro ?_ ?_
    | (intro _ e9; subst e9)
    | intro _
    | exact hG_5 _ ⟨(step_ok h0_5 c_5).1, rfl, rfl⟩ (step_ok h0_5 c_5).2)
