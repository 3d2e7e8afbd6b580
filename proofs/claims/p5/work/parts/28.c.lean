
def XFr (S T : Nat → CS) : Prop := (T 0).1 1 = (S 0).1 1 ∧ (T 6).1 3 = (S 6).1 3 ∧ (T 0).2.2 = (S 0).2.2 ∧ (T 0).2.1 0 = (S 0).2.1 0
theorem XFr_r (S : Nat → CS) : XFr S S := ⟨rfl, rfl, rfl, rfl⟩
theorem XFr_t {S T U : Nat → CS} (h : XFr S T) (h2 : XFr T U) : XFr S U := ⟨h2.1.trans h.1, h2.2.1.trans h.2.1, h2.2.2.1.trans h.2.2.1, h2.2.2.2.trans h.2.2.2⟩
theorem sfx_X6_slotAt {p0 : Int32} {Z Y : Nat → Nat → Nat} {S : Nat → CS} {a : AS} {Q : Option Nat → Prop} (h0 : Q none) (h1 : ∀ k, (k = 7 ∨ k = 8) → Q (some (Z k 0))) : wp_X6_slotAt p0 Z Y S a Q := by
  unfold wp_X6_slotAt
  have l2 : (2 : Int32).toInt = (2 : Nat) := by decide
  refine ⟨fun _ => ?_, fun c1 => ⟨fun _ => ?_, fun c2 => ?_⟩⟩
  · first | exact h0 | (unfold B_X6_slotAt_22; exact h0)
  · first | exact h0 | (unfold B_X6_slotAt_22; exact h0)
  · refine ⟨vin_ok2 (2 : Int32) l2 c1 c2, ?_⟩
    by_cases hz : p0.toNatClampNeg = 0
    · exact ⟨7, by simp [slF, hz], h1 7 (Or.inl rfl)⟩
    · exact ⟨8, by simp [slF, hz], h1 8 (Or.inr rfl)⟩

set_option maxHeartbeats 400000 in
theorem sfx_X6_fault {Z : Nat → Nat → Nat} {Y : Nat → Nat → Nat} {S : Nat → CS} {a : AS} {Q : Int32 → (Nat → CS) → AS → Prop} (ha : Aok Y a) (h : ∀ (r : Int32) (S2 : Nat → CS) (a2 : AS), Aok Y a2 → XFr S S2 → Q r S2 a2) : wp_X6_fault Z Y S a Q := by
  unfold wp_X6_fault
  repeat' (first
    | ((with_reducible refine h _ _ _ ?_ ?_) <;> (first | assumption | exact ⟨rfl, rfl, rfl, rfl⟩ | exact XFr_t (by assumption) ⟨rfl, rfl, rfl, rfl⟩))
    | with_reducible refine And.intro ?_ ?_
    | with_reducible refine sf_X1_readAll (by decide) ?_
    | (intro _ e9; subst e9)
    | intro _)
set_option maxHeartbeats 400000 in
theorem sfx_X6_owner {p0 : Int32} {p1 : Int32} {Z : Nat → Nat → Nat} {Y : Nat → Nat → Nat} {S : Nat → CS} {a : AS} {Q : Int32 → Prop} (h : ∀ (r : Int32), Q r) : wp_X6_owner p0 p1 Z Y S a Q := by
  unfold wp_X6_owner
  repeat' (first
    | with_reducible exact h _
    | with_reducible refine And.intro ?_ ?_
    | with_reducible refine sf_X1_hasOwner ?_
    | with_reducible refine sf_X3_get (by decide) ?_
    | with_reducible refine sf_X1_rowsOf ?_
    | with_reducible refine sf_X5_holesOf ?_
    | with_reducible refine sf_X5_ownedBy ?_
    | with_reducible refine sf_J6_bitCount_0f7a4 ?_
    | (intro _ e9; subst e9)
    | intro _)
set_option maxHeartbeats 400000 in
theorem sfx_X6_hole {p0 : Int32} {p1 : Int32} {Z : Nat → Nat → Nat} {Y : Nat → Nat → Nat} {S : Nat → CS} {a : AS} {Q : Int32 → Prop} (h : ∀ (r : Int32), Q r) : wp_X6_hole p0 p1 Z Y S a Q := by
  unfold wp_X6_hole
  repeat' (first
    | with_reducible exact h _
    | with_reducible refine And.intro ?_ ?_
    | with_reducible refine sf_X1_hasHole ?_
    | with_reducible refine sf_X3_get (by decide) ?_
    | with_reducible refine sf_X5_cellsOfHole ?_
    | with_reducible refine sf_X5_sizeOfHole ?_
    | (intro _ e9; subst e9)
    | intro _)
set_option maxHeartbeats 400000 in
theorem sfx_X6_cell {p0 : Int32} {p1 : Int32} {Z : Nat → Nat → Nat} {Y : Nat → Nat → Nat} {S : Nat → CS} {a : AS} {Q : Int32 → Prop} (h : ∀ (r : Int32), Q r) : wp_X6_cell p0 p1 Z Y S a Q := by
  unfold wp_X6_cell
  repeat' (first
    | with_reducible exact h _
    | with_reducible refine And.intro ?_ ?_
    | with_reducible refine sf_X2_hasCell ?_
    | with_reducible refine sf_X5_stuffAt ?_
    | with_reducible refine sf_X5_holeAt ?_
    | with_reducible refine sf_X5_ownerAt ?_
    | (intro _ e9; subst e9)
    | intro _)
set_option maxHeartbeats 400000 in
theorem sfx_X6_day {Z : Nat → Nat → Nat} {Y : Nat → Nat → Nat} {S : Nat → CS} {a : AS} {Q : Int32 → (Nat → CS) → AS → Prop} (ha : Aok Y a) (h : ∀ (r : Int32) (S2 : Nat → CS) (a2 : AS), Aok Y a2 → XFr S S2 → Q r S2 a2) : wp_X6_day Z Y S a Q := by
  unfold wp_X6_day
  repeat' (first
    | ((with_reducible refine h _ _ _ ?_ ?_) <;> (first | assumption | exact ⟨rfl, rfl, rfl, rfl⟩ | exact XFr_t (by assumption) ⟨rfl, rfl, rfl, rfl⟩))
    | with_reducible refine And.intro ?_ ?_
    | with_reducible refine sf_X0_remember (by assumption) ?_
    | with_reducible refine sf_X5_passDay ?_
    | (intro _ e9; subst e9)
    | intro _)
set_option maxHeartbeats 400000 in
theorem sfx_X6_eat {p0 : Int32} {p1 : Int32} {Z : Nat → Nat → Nat} {Y : Nat → Nat → Nat} {S : Nat → CS} {a : AS} {Q : Int32 → (Nat → CS) → AS → Prop} (ha : Aok Y a) (h : ∀ (r : Int32) (S2 : Nat → CS) (a2 : AS), Aok Y a2 → XFr S S2 → Q r S2 a2) : wp_X6_eat p0 p1 Z Y S a Q := by
  unfold wp_X6_eat
  repeat' (first
    | ((with_reducible refine h _ _ _ ?_ ?_) <;> (first | assumption | exact ⟨rfl, rfl, rfl, rfl⟩ | exact XFr_t (by assumption) ⟨rfl, rfl, rfl, rfl⟩))
    | with_reducible refine And.intro ?_ ?_
    | with_reducible refine sf_X5_refusalToEat ?_
    | with_reducible refine sf_X0_remember (by assumption) ?_
    | with_reducible refine sf_X5_eatCell ?_
    | (intro _ e9; subst e9)
    | intro _)
set_option maxHeartbeats 400000 in
theorem sfx_X6_let {p0 : Int32} {p1 : Int32} {Z : Nat → Nat → Nat} {Y : Nat → Nat → Nat} {S : Nat → CS} {a : AS} {Q : Int32 → (Nat → CS) → AS → Prop} (ha : Aok Y a) (h : ∀ (r : Int32) (S2 : Nat → CS) (a2 : AS), Aok Y a2 → XFr S S2 → Q r S2 a2) : wp_X6_let p0 p1 Z Y S a Q := by
  unfold wp_X6_let
  repeat' (first
    | ((with_reducible refine h _ _ _ ?_ ?_) <;> (first | assumption | exact ⟨rfl, rfl, rfl, rfl⟩ | exact XFr_t (by assumption) ⟨rfl, rfl, rfl, rfl⟩))
    | with_reducible refine And.intro ?_ ?_
    | with_reducible refine sf_X5_refusalToLet ?_
    | with_reducible refine sf_X0_remember (by assumption) ?_
    | with_reducible refine sf_X5_letHole ?_
    | (intro _ e9; subst e9)
    | intro _)
set_option maxHeartbeats 400000 in
theorem sfx_X6_sell {p0 : Int32} {p1 : Int32} {Z : Nat → Nat → Nat} {Y : Nat → Nat → Nat} {S : Nat → CS} {a : AS} {Q : Int32 → (Nat → CS) → AS → Prop} (ha : Aok Y a) (h : ∀ (r : Int32) (S2 : Nat → CS) (a2 : AS), Aok Y a2 → XFr S S2 → Q r S2 a2) : wp_X6_sell p0 p1 Z Y S a Q := by
  unfold wp_X6_sell
  repeat' (first
    | ((with_reducible refine h _ _ _ ?_ ?_) <;> (first | assumption | exact ⟨rfl, rfl, rfl, rfl⟩ | exact XFr_t (by assumption) ⟨rfl, rfl, rfl, rfl⟩))
    | with_reducible refine And.intro ?_ ?_
    | with_reducible refine sf_X5_refusalToSell ?_
    | with_reducible refine sf_X0_remember (by assumption) ?_
    | with_reducible refine sf_X5_sellHole ?_
    | (intro _ e9; subst e9)
    | intro _)
set_option maxHeartbeats 400000 in
theorem sfx_X6_undo {Z : Nat → Nat → Nat} {Y : Nat → Nat → Nat} {S : Nat → CS} {a : AS} {Q : Int32 → (Nat → CS) → AS → Prop} (ha : Aok Y a) (h : ∀ (r : Int32) (S2 : Nat → CS) (a2 : AS), Aok Y a2 → XFr S S2 → Q r S2 a2) : wp_X6_undo Z Y S a Q := by
  unfold wp_X6_undo
  repeat' (first
    | ((with_reducible refine h _ _ _ ?_ ?_) <;> (first | assumption | exact ⟨rfl, rfl, rfl, rfl⟩ | exact XFr_t (by assumption) ⟨rfl, rfl, rfl, rfl⟩))
    | with_reducible refine And.intro ?_ ?_
    | with_reducible refine sf_X0_takeBack (by assumption) ?_
    | (intro _ e9; subst e9)
    | intro _)
set_option maxHeartbeats 400000 in
theorem sfx_X6_way {p0 : Int32} {p1 : Int32} {Z : Nat → Nat → Nat} {Y : Nat → Nat → Nat} {S : Nat → CS} {a : AS} {Q : Int32 → Prop} (h : ∀ (r : Int32), Q r) : wp_X6_way p0 p1 Z Y S a Q := by
  unfold wp_X6_way
  repeat' (first
    | with_reducible exact h _
    | with_reducible refine And.intro ?_ ?_
    | with_reducible refine sf_X2_hasCell ?_
    | with_reducible refine sf_X5_openCells ?_
    | with_reducible refine sf_X2_steps ?_
    | (intro _ e9; subst e9)
    | intro _)
set_option maxHeartbeats 400000 in
theorem sfx_X6_gnaw {p0 : Int32} {p1 : Int32} {Z : Nat → Nat → Nat} {Y : Nat → Nat → Nat} {S : Nat → CS} {a : AS} {Q : Int32 → Prop} (h : ∀ (r : Int32), Q r) : wp_X6_gnaw p0 p1 Z Y S a Q := by
  unfold wp_X6_gnaw
  repeat' (first
    | with_reducible exact h _
    | with_reducible refine And.intro ?_ ?_
    | with_reducible refine sf_X2_hasCell ?_
    | with_reducible refine sf_X5_openCells ?_
    | with_reducible refine sf_X5_softPaste ?_
    | with_reducible refine sf_X2_fewestGnawed ?_
    | (intro _ e9; subst e9)
    | intro _)
set_option maxHeartbeats 400000 in
theorem sfx_X6_wedding {p0 : Int32} {p1 : Int32} {Z : Nat → Nat → Nat} {Y : Nat → Nat → Nat} {S : Nat → CS} {a : AS} {Q : Int32 → (Nat → CS) → AS → Prop} (ha : Aok Y a) (h : ∀ (r : Int32) (S2 : Nat → CS) (a2 : AS), Aok Y a2 → XFr S S2 → Q r S2 a2) : wp_X6_wedding p0 p1 Z Y S a Q := by
  unfold wp_X6_wedding
  repeat' (first
    | ((with_reducible refine h _ _ _ ?_ ?_) <;> (first | assumption | exact ⟨rfl, rfl, rfl, rfl⟩ | exact XFr_t (by assumption) ⟨rfl, rfl, rfl, rfl⟩))
    | (unfold B_X6_wedding_45; refine LOOP_m0 (fun b z => 0 ≤ (z.2.2.1).toInt ∧ z.1 = b.1 ∧ z.2.1 = b.2.1 ∧ Aok Y z.2.2.2.2 ∧ XFr b.2.2.2.1 z.2.2.2.1) (fun z => (((20 : Int32)).toInt + 1 - (z.2.2.1).toInt).toNat) _ ⟨by first | with_reducible exact i0_ok | with_reducible exact i1_ok, rfl, rfl, by assumption, XFr_r _⟩ ?_; rintro ⟨x1', x2', x3, S, a⟩ G_45 ⟨h0_45, hx_x1, hx_x2, hA_45, hX_45⟩ hG_45; change LB_X6_wedding_45 G_45  Z Y x1' x2' x3 S a Q; try dsimp only at h0_45; try dsimp only at hx_x1; subst hx_x1; try dsimp only at hx_x2; subst hx_x2; try dsimp only at hA_45 hX_45; unfold LB_X6_wedding_45; refine And.intro (fun e_45 => ?_) (fun c_45 => ?_))
    | with_reducible refine And.intro ?_ ?_
    | with_reducible refine sf_X5_isGone ?_
    | with_reducible refine sf_X5_passDay ?_
    | with_reducible refine sf_X1_hasHole ?_
    | with_reducible refine sf_X5_copyFrom ?_
    | (intro _ e9; subst e9)
    | intro _
    | exact hG_45 _ ⟨(step_ok2 (by decide) h0_45 c_45).1, rfl, rfl, (by assumption), (XFr_t hX_45 (by first | exact ⟨rfl, rfl, rfl, rfl⟩ | assumption))⟩ (step_ok2 (by decide) h0_45 c_45).2)
set_option maxHeartbeats 400000 in
theorem sfx_X6_ahead {p0 : Int32} {p1 : Int32} {Z : Nat → Nat → Nat} {Y : Nat → Nat → Nat} {S : Nat → CS} {a : AS} {Q : Int32 → (Nat → CS) → AS → Prop} (ha : Aok Y a) (h : ∀ (r : Int32) (S2 : Nat → CS) (a2 : AS), Aok Y a2 → XFr S S2 → Q r S2 a2) : wp_X6_ahead p0 p1 Z Y S a Q := by
  unfold wp_X6_ahead
  repeat' (first
    | ((with_reducible refine h _ _ _ ?_ ?_) <;> (first | assumption | exact ⟨rfl, rfl, rfl, rfl⟩ | exact XFr_t (by assumption) ⟨rfl, rfl, rfl, rfl⟩))
    | (unfold B_X6_ahead_35; refine LOOP_m0 (fun b z => 0 ≤ (z.2.2.1).toInt ∧ z.1 = b.1 ∧ z.2.1 = b.2.1 ∧ Aok Y z.2.2.2.2 ∧ XFr b.2.2.2.1 z.2.2.2.1) (fun z => ((z.1).toInt - (z.2.2.1).toInt).toNat) _ ⟨by first | with_reducible exact i0_ok | with_reducible exact i1_ok, rfl, rfl, by assumption, XFr_r _⟩ ?_; rintro ⟨x1', x2', x3, S, a⟩ G_35 ⟨h0_35, hx_x1, hx_x2, hA_35, hX_35⟩ hG_35; change LB_X6_ahead_35 G_35  Z Y x1' x2' x3 S a Q; try dsimp only at h0_35; try dsimp only at hx_x1; subst hx_x1; try dsimp only at hx_x2; subst hx_x2; try dsimp only at hA_35 hX_35; unfold LB_X6_ahead_35; refine And.intro (fun e_35 => ?_) (fun c_35 => ?_))
    | with_reducible refine And.intro ?_ ?_
    | with_reducible refine sf_X5_pasteCells ?_
    | with_reducible refine sf_J6_bitCount_0f7a4 ?_
    | with_reducible refine sf_X5_holesLeft ?_
    | with_reducible refine sf_X5_passDay ?_
    | with_reducible refine sf_X5_copyFrom ?_
    | (intro _ e9; subst e9)
    | intro _
    | exact hG_35 _ ⟨(step_ok h0_35 c_35).1, rfl, rfl, (by assumption), (XFr_t hX_35 (by first | exact ⟨rfl, rfl, rfl, rfl⟩ | assumption))⟩ (step_ok h0_35 c_35).2)
set_option maxHeartbeats 400000 in
theorem sfx_X6_cut {p0 : Int32} {p1 : Int32} {p2 : Int32} {Z : Nat → Nat → Nat} {Y : Nat → Nat → Nat} {S : Nat → CS} {a : AS} {Q : Int32 → Prop} (h : ∀ (r : Int32), Q r) : wp_X6_cut p0 p1 p2 Z Y S a Q := by
  unfold wp_X6_cut
  repeat' (first
    | with_reducible exact h _
    | (unfold B_X6_cut_82; refine LOOP_m0 (fun b z => 0 ≤ (z.2.2.2.2.2).toInt ∧ z.1 = b.1 ∧ z.2.1 = b.2.1 ∧ z.2.2.1 = b.2.2.1) (fun z => (((5 : Int32)).toInt - (z.2.2.2.2.2).toInt).toNat) _ ⟨by first | with_reducible exact i0_ok | with_reducible exact i1_ok, rfl, rfl, rfl⟩ ?_; rintro ⟨x3', x4', x5', x6, x7, x8⟩ G_82 ⟨h0_82, hx_x3, hx_x4, hx_x5⟩ hG_82; change LB_X6_cut_82 G_82  Z Y S a x3' x4' x5' x6 x7 x8 Q; try dsimp only at h0_82; try dsimp only at hx_x3; subst hx_x3; try dsimp only at hx_x4; subst hx_x4; try dsimp only at hx_x5; subst hx_x5; unfold LB_X6_cut_82; refine And.intro (fun e_82 => ?_) (fun c_82 => ?_))
    | with_reducible refine And.intro ?_ ?_
    | with_reducible refine sf_X2_cellsLeftOf ?_
    | with_reducible refine sf_J6_bitCount_0f7a4 ?_
    | with_reducible refine sf_X1_hasOwner ?_
    | with_reducible refine sf_X5_ownedBy ?_
    | (intro _ e9; subst e9)
    | intro _
    | unfold B_X6_cut_131
    | exact hG_82 _ ⟨(step_ok h0_82 c_82).1, rfl, rfl, rfl⟩ (step_ok h0_82 c_82).2)
set_option maxHeartbeats 400000 in
theorem sfx_X6_mayHaveBegun {p0 : Int32} {Z : Nat → Nat → Nat} {Y : Nat → Nat → Nat} {S : Nat → CS} {a : AS} {Q : Int32 → (Nat → CS) → AS → Prop} (ha : Aok Y a) (h : ∀ (r : Int32) (S2 : Nat → CS) (a2 : AS), Aok Y a2 → XFr S S2 → Q r S2 a2) : wp_X6_mayHaveBegun p0 Z Y S a Q := by
  unfold wp_X6_mayHaveBegun
  repeat' (first
    | ((with_reducible refine h _ _ _ ?_ ?_) <;> (first | assumption | exact ⟨rfl, rfl, rfl, rfl⟩ | exact XFr_t (by assumption) ⟨rfl, rfl, rfl, rfl⟩))
    | (unfold B_X6_mayHaveBegun_21; refine LOOP_m0 (fun b z => 0 ≤ (z.1).toInt ∧ Aok Y z.2.2 ∧ XFr b.2.1 z.2.1) (fun z => (((9 : Int32)).toInt + 1 - (z.1).toInt).toNat) _ ⟨by first | with_reducible exact i0_ok | with_reducible exact i1_ok, by assumption, XFr_r _⟩ ?_; rintro ⟨x2, S, a⟩ G_21 ⟨h0_21, hA_21, hX_21⟩ hG_21; change LB_X6_mayHaveBegun_21 G_21  Z Y x2 S a Q; try dsimp only at h0_21; try dsimp only at hA_21 hX_21; unfold LB_X6_mayHaveBegun_21; refine And.intro (fun e_21 => ?_) (fun c_21 => ?_))
    | with_reducible refine And.intro ?_ ?_
    | with_reducible refine sf_X5_holeCells ?_
    | with_reducible refine sf_X4_agrees ?_
    | with_reducible refine sf_X5_passDay ?_
    | with_reducible refine sf_X5_beginWith ?_
    | with_reducible refine sf_X5_putLoneHole ?_
    | (intro _ e9; subst e9)
    | intro _
    | exact hG_21 _ ⟨(step_ok2 (by decide) h0_21 c_21).1, (by assumption), (XFr_t hX_21 (by first | exact ⟨rfl, rfl, rfl, rfl⟩ | assumption))⟩ (step_ok2 (by decide) h0_21 c_21).2)
set_option maxHeartbeats 400000 in
theorem sfx_X6_began {p0 : Int32} {Z : Nat → Nat → Nat} {Y : Nat → Nat → Nat} {S : Nat → CS} {a : AS} {Q : Int32 → (Nat → CS) → AS → Prop} (ha : Aok Y a) (h : ∀ (r : Int32) (S2 : Nat → CS) (a2 : AS), Aok Y a2 → XFr S S2 → Q r S2 a2) : wp_X6_began p0 Z Y S a Q := by
  unfold wp_X6_began
  repeat' (first
    | ((with_reducible refine h _ _ _ ?_ ?_) <;> (first | assumption | exact ⟨rfl, rfl, rfl, rfl⟩ | exact XFr_t (by assumption) ⟨rfl, rfl, rfl, rfl⟩))
    | (unfold B_X6_began_24; refine LOOP_m0 (fun b z => 0 ≤ (z.2.1).toInt ∧ Aok Y z.2.2.2 ∧ XFr b.2.2.1 z.2.2.1) (fun z => (((20 : Int32)).toInt - (z.2.1).toInt).toNat) _ ⟨by first | with_reducible exact i0_ok | with_reducible exact i1_ok, by assumption, XFr_r _⟩ ?_; rintro ⟨x2, x3, S, a⟩ G_24 ⟨h0_24, hA_24, hX_24⟩ hG_24; change LB_X6_began_24 G_24  Z Y x2 x3 S a Q; try dsimp only at h0_24; try dsimp only at hA_24 hX_24; unfold LB_X6_began_24; refine And.intro (fun e_24 => ?_) (fun c_24 => ?_))
    | with_reducible refine And.intro ?_ ?_
    | with_reducible refine sfx_X6_mayHaveBegun (by assumption) ?_
    | with_reducible refine sf_X1_tellLoneHole ?_
    | (intro _ e9; subst e9)
    | intro _
    | unfold B_X6_began_44
    | exact hG_24 _ ⟨(step_ok h0_24 c_24).1, (by assumption), (XFr_t hX_24 (by first | exact ⟨rfl, rfl, rfl, rfl⟩ | assumption))⟩ (step_ok h0_24 c_24).2)
set_option maxHeartbeats 400000 in
theorem sfx_X6_largestEstate {p0 : Int32} {Z : Nat → Nat → Nat} {Y : Nat → Nat → Nat} {S : Nat → CS} {a : AS} {Q : Int32 → Prop} (h : ∀ (r : Int32), Q r) : wp_X6_largestEstate p0 Z Y S a Q := by
  unfold wp_X6_largestEstate
  repeat' (first
    | with_reducible exact h _
    | with_reducible refine And.intro ?_ ?_
    | with_reducible refine sf_X5_ownedBy ?_
    | with_reducible refine sf_X2_largestPatch ?_
    | (intro _ e9; subst e9)
    | intro _)
theorem sf_X6_partOfFraction {p0 : Int32} {p1 : Int32} {p2 : Int32} {Q : Int32 → Prop} (h : ∀ (r : Int32), Q r) : wp_X6_partOfFraction p0 p1 p2 Q := by
  have k52 : ∀ x0 x1 x2 t0 : Int32, ¬ t0 = 0 → B_X6_partOfFraction_52 x0 x1 x2 t0 Q := by
    intro x0 x1 x2 t0 ht
    unfold B_X6_partOfFraction_52
    exact ⟨fun _ => ⟨ht, h _⟩, fun _ => ⟨ht, h _⟩⟩
  have k42 : ∀ x0 x1 x2 x3 : Int32, B_X6_partOfFraction_42 x0 x1 x2 x3 Q := by
    intro x0 x1 x2 x3
    unfold B_X6_partOfFraction_42
    refine ⟨fun c => k52 _ _ _ _ (fun e => ?_), fun c => k52 _ _ _ _ (by decide)⟩
    subst e
    exact absurd c (by decide)
  unfold wp_X6_partOfFraction
  intro _ e1
  subst e1
  unfold B_X6_partOfFraction_11
  refine LOOP_m (fun z => 0 ≤ (z.2.2.2.2.2).toInt) (fun z => ((64 : Int32).toInt - (z.2.2.2.2.2).toInt).toNat) _ i0_ok ?_
  rintro ⟨x0, x1, x2, x3, x4, x5⟩ G h0 hG
  change LB_X6_partOfFraction_11 G x0 x1 x2 x3 x4 x5 Q
  dsimp only at h0
  unfold LB_X6_partOfFraction_11
  refine ⟨fun _ => k42 _ _ _ _, fun c => ⟨fun _ => k42 _ _ _ _, fun c4 => ⟨c4, ?_⟩⟩⟩
  intro _ e2
  subst e2
  intro _ e3
  subst e3
  exact hG _ (step_ok h0 c).1 (step_ok h0 c).2

set_option maxHeartbeats 400000 in
theorem sf_X6_hasByAsking {p0 : Int32} {p1 : Int32} {p2 : Int32} {Q : Int32 → Prop} (h : ∀ (r : Int32), Q r) : wp_X6_hasByAsking p0 p1 p2 Q := by
  unfold wp_X6_hasByAsking
  repeat' (first
    | with_reducible exact h _
    | with_reducible refine And.intro ?_ ?_
    | (intro _ e9; subst e9)
    | intro _)
set_option maxHeartbeats 400000 in
theorem sf_X6_isContent {p0 : Int32} {p1 : Int32} {p2 : Int32} {Q : Int32 → Prop} (h : ∀ (r : Int32) (hr : r = 0 ∨ r = 1), Q r) : wp_X6_isContent p0 p1 p2 Q := by
  unfold wp_X6_isContent
  repeat' (first
    | with_reducible exact h _ (Or.inl rfl)
    | with_reducible exact h _ (Or.inr rfl)
    | with_reducible exact h _ (by assumption)
    | with_reducible refine And.intro ?_ ?_
    | with_reducible refine sf_X6_hasByAsking ?_
    | (intro _ e9; subst e9)
    | intro _)
set_option maxHeartbeats 400000 in
theorem sfx_X6_rests {p0 : Int32} {p1 : Int32} {p2 : Int32} {Z : Nat → Nat → Nat} {Y : Nat → Nat → Nat} {S : Nat → CS} {a : AS} {Q : Int32 → Prop} (h : ∀ (r : Int32), Q r) : wp_X6_rests p0 p1 p2 Z Y S a Q := by
  unfold wp_X6_rests
  repeat' (first
    | with_reducible exact h _
    | (unfold B_X6_rests_80; refine LOOP_m0 (fun b z => 0 ≤ (z.2.2.2.2.2.2).toInt ∧ z.1 = b.1 ∧ z.2.1 = b.2.1 ∧ z.2.2.1 = b.2.2.1 ∧ z.2.2.2.2.2.1 = b.2.2.2.2.2.1) (fun z => (((2 : Int32)).toInt + 1 - (z.2.2.2.2.2.2).toInt).toNat) _ ⟨by first | with_reducible exact i0_ok | with_reducible exact i1_ok | exact (step_ok h0_71 c_71).1, rfl, rfl, rfl, rfl⟩ ?_; rintro ⟨x3', x4', x5', x6, x7, x8', x9⟩ G_80 ⟨h0_80, hx_x3, hx_x4, hx_x5, hx_x8⟩ hG_80; change LB_X6_rests_80 G_80 _ Z Y S a x3' x4' x5' x6 x7 x8' x9 Q; try dsimp only at h0_80; try dsimp only at hx_x3; subst hx_x3; try dsimp only at hx_x4; subst hx_x4; try dsimp only at hx_x5; subst hx_x5; try dsimp only at hx_x8; subst hx_x8; unfold LB_X6_rests_80; refine And.intro (fun e_80 => ?_) (fun c_80 => ?_))
    | (unfold B_X6_rests_71; refine LOOP_m0 (fun b z => 0 ≤ (z.2.2.2.2.2).toInt ∧ z.1 = b.1 ∧ z.2.1 = b.2.1 ∧ z.2.2.1 = b.2.2.1) (fun z => (((2 : Int32)).toInt + 1 - (z.2.2.2.2.2).toInt).toNat) _ ⟨by first | with_reducible exact i0_ok | with_reducible exact i1_ok, rfl, rfl, rfl⟩ ?_; rintro ⟨x3', x4', x5', x6, x7, x8⟩ G_71 ⟨h0_71, hx_x3, hx_x4, hx_x5⟩ hG_71; change LB_X6_rests_71 G_71  Z Y S a x3' x4' x5' x6 x7 x8 Q; try dsimp only at h0_71; try dsimp only at hx_x3; subst hx_x3; try dsimp only at hx_x4; subst hx_x4; try dsimp only at hx_x5; subst hx_x5; unfold LB_X6_rests_71; refine And.intro (fun e_71 => ?_) (fun c_71 => ?_))
    | with_reducible refine And.intro ?_ ?_
    | with_reducible refine sf_X6_isContent ?_
    | with_reducible refine sf_X1_hasOwner ?_
    | with_reducible refine sf_X5_holeCellsOf ?_
    | (intro _ e9; subst e9)
    | intro _
    | unfold B_X6_rests_128
    | unfold B_X6_rests_125
    | exact hG_80 _ ⟨(step_ok2 (by decide) h0_80 c_80).1, rfl, rfl, rfl, rfl⟩ (step_ok2 (by decide) h0_80 c_80).2
    | exact hG_71 _ ⟨(step_ok2 (by decide) h0_71 c_71).1, rfl, rfl, rfl⟩ (step_ok2 (by decide) h0_71 c_71).2)
set_option maxHeartbeats 400000 in
theorem sf_X6_weightOfShut {p0 : Int32} {p1 : Int32} {p2 : Int32} {Q : Int32 → Prop} (h : ∀ (r : Int32), Q r) : wp_X6_weightOfShut p0 p1 p2 Q := by
  unfold wp_X6_weightOfShut
  repeat' (first
    | with_reducible exact h _
    | (unfold B_X6_weightOfShut_5; refine LOOP_m0 (fun a z => 0 ≤ (z.2.2.2.2).toInt ∧ z.1 = a.1 ∧ z.2.1 = a.2.1 ∧ z.2.2.1 = a.2.2.1) (fun z => (((5 : Int32)).toInt - (z.2.2.2.2).toInt).toNat) _ ⟨by first | with_reducible exact i0_ok | with_reducible exact i1_ok, rfl, rfl, rfl⟩ ?_; rintro ⟨x0', x1', x2', x3, x4⟩ G_5 ⟨h0_5, hx_x0, hx_x1, hx_x2⟩ hG_5; change LB_X6_weightOfShut_5 G_5   x0' x1' x2' x3 x4 Q; try dsimp only at h0_5; try dsimp only at hx_x0; subst hx_x0; try dsimp only at hx_x1; subst hx_x1; try dsimp only at hx_x2; subst hx_x2; unfold LB_X6_weightOfShut_5; refine And.intro (fun e_5 => ?_) (fun c_5 => ?_))
    | with_reducible refine And.intro ?_ ?_
    | (intro _ e9; subst e9)
    | intro _
    | unfold B_X6_weightOfShut_42
    | unfold B_X6_weightOfShut_40
    | exact hG_5 _ ⟨(step_ok h0_5 c_5).1, rfl, rfl, rfl⟩ (step_ok h0_5 c_5).2)
set_option maxHeartbeats 400000 in
theorem sfx_X6_passes {p0 : Int32} {p1 : Int32} {p2 : Int32} {p3 : Int32} {Z : Nat → Nat → Nat} {Y : Nat → Nat → Nat} {S : Nat → CS} {a : AS} {Q : Int32 → Prop} (h : ∀ (r : Int32), Q r) : wp_X6_passes p0 p1 p2 p3 Z Y S a Q := by
  unfold wp_X6_passes
  repeat' (first
    | with_reducible exact h _
    | (unfold B_X6_passes_79; refine LOOP_m0 (fun b z => 0 ≤ (z.2.2.2.2.2.2.2).toInt ∧ z.1 = b.1 ∧ z.2.1 = b.2.1 ∧ z.2.2.1 = b.2.2.1 ∧ z.2.2.2.1 = b.2.2.2.1 ∧ z.2.2.2.2.1 = b.2.2.2.2.1 ∧ z.2.2.2.2.2.2.1 = b.2.2.2.2.2.2.1) (fun z => (((32 : Int32)).toInt - (z.2.2.2.2.2.2.2).toInt).toNat) _ ⟨by first | with_reducible exact i0_ok | with_reducible exact i1_ok, rfl, rfl, rfl, rfl, rfl, rfl⟩ ?_; rintro ⟨x1', x2', x3', x4', x5', x6, x7', x8⟩ G_79 ⟨h0_79, hx_x1, hx_x2, hx_x3, hx_x4, hx_x5, hx_x7⟩ hG_79; change LB_X6_passes_79 G_79  Z Y S a x1' x2' x3' x4' x5' x6 x7' x8 Q; try dsimp only at h0_79; try dsimp only at hx_x1; subst hx_x1; try dsimp only at hx_x2; subst hx_x2; try dsimp only at hx_x3; subst hx_x3; try dsimp only at hx_x4; subst hx_x4; try dsimp only at hx_x5; subst hx_x5; try dsimp only at hx_x7; subst hx_x7; unfold LB_X6_passes_79; refine And.intro (fun e_79 => ?_) (fun c_79 => ?_))
    | (unfold B_X6_passes_47; refine LOOP_m0 (fun b z => 0 ≤ (z.2.2.2.2.2.2.2).toInt ∧ z.1 = b.1 ∧ z.2.1 = b.2.1 ∧ z.2.2.1 = b.2.2.1 ∧ z.2.2.2.1 = b.2.2.2.1 ∧ z.2.2.2.2.1 = b.2.2.2.2.1 ∧ z.2.2.2.2.2.1 = b.2.2.2.2.2.1) (fun z => (((5 : Int32)).toInt - (z.2.2.2.2.2.2.2).toInt).toNat) _ ⟨by first | with_reducible exact i0_ok | with_reducible exact i1_ok, rfl, rfl, rfl, rfl, rfl, rfl⟩ ?_; rintro ⟨x1', x2', x3', x4', x5', x6', x7, x8⟩ G_47 ⟨h0_47, hx_x1, hx_x2, hx_x3, hx_x4, hx_x5, hx_x6⟩ hG_47; change LB_X6_passes_47 G_47  Z Y S a x1' x2' x3' x4' x5' x6' x7 x8 Q; try dsimp only at h0_47; try dsimp only at hx_x1; subst hx_x1; try dsimp only at hx_x2; subst hx_x2; try dsimp only at hx_x3; subst hx_x3; try dsimp only at hx_x4; subst hx_x4; try dsimp only at hx_x5; subst hx_x5; try dsimp only at hx_x6; subst hx_x6; unfold LB_X6_passes_47; refine And.intro (fun e_47 => ?_) (fun c_47 => ?_))
    | with_reducible refine And.intro ?_ ?_
    | with_reducible refine sf_X6_partOfFraction ?_
    | with_reducible refine sf_X5_openBut ?_
    | with_reducible refine sf_X2_steps ?_
    | with_reducible refine sf_X6_weightOfShut ?_
    | with_reducible refine sf_X2_hasCell ?_
    | with_reducible refine sf_X5_holesLeft ?_
    | (intro _ e9; subst e9)
    | intro _
    | unfold B_X6_passes_128
    | unfold B_X6_passes_70
    | exact hG_79 _ ⟨(step_ok h0_79 c_79).1, rfl, rfl, rfl, rfl, rfl, rfl⟩ (step_ok h0_79 c_79).2
    | exact hG_47 _ ⟨(step_ok h0_47 c_47).1, rfl, rfl, rfl, rfl, rfl, rfl⟩ (step_ok h0_47 c_47).2)
set_option maxHeartbeats 400000 in
theorem sfx_X6_count {p0 : Int32} {Z : Nat → Nat → Nat} {Y : Nat → Nat → Nat} {S : Nat → CS} {a : AS} {Q : Int32 → Prop} (h : ∀ (r : Int32), Q r) : wp_X6_count p0 Z Y S a Q := by
  unfold wp_X6_count
  repeat' (first
    | with_reducible exact h _
    | with_reducible refine And.intro ?_ ?_
    | with_reducible refine sf_X5_holeCells ?_
    | with_reducible refine sf_X5_holesLeft ?_
    | (intro _ e9; subst e9)
    | intro _)
