theorem s_estate {p : Int32} {m : CS} {Q : Int32 → Prop} (hm : Mk m) (h : ∀ r, Q r) : wp_X7_estate p m Q := by
  unfold wp_X7_estate B_X7_estate_4
  refine LOOP_c 20 (fun i z => z.2.2.toInt = (i : Int)) _ rfl ?_
  rintro i ⟨x1, x2, x3⟩ G hi k1 hG
  change LB_X7_estate_4 G m x1 x2 x3 Q
  dsimp only at k1
  unfold LB_X7_estate_4
  refine ⟨fun _ => h _, fun c => ?_⟩
  have c1 : i < 20 := by rw [ti_ge (m := 20) k1 rfl] at c; omega
  have nx : ∀ t u, B_X7_estate_42 G m x1 x3 t u Q := by
    intro t u
    unfold B_X7_estate_42
    intro _ _ _ e
    subst e
    exact hG _ c1 (ti_add k1 (by omega))
  unfold B_X7_estate_41
  exact s_ownerOf (L := 0) rfl (by omega) k1 c1 hm (fun r _ => ⟨fun _ => nx _ _, fun _ => sf_X7_has (fun r2 _ => ⟨fun _ => nx _ _, fun _ => nx _ _⟩)⟩)
theorem s_owner {p q : Int32} {m : CS} {Q : Int32 → Prop} (hm : Mk m) (h : ∀ r, Q r) : wp_X7_owner p q m Q := by
  obtain ⟨H, hH⟩ := nat_of hm.2.1.1
  have hH5 := hm.2.1.2
  unfold wp_X7_owner
  refine s_isOwner hm (fun P a b => ⟨fun _ => ?_, fun c => absurd c (by decide)⟩) ⟨fun c => absurd rfl c, fun _ => h _⟩
  unfold B_X7_owner_18
  refine LOOP_c 4 (fun i z => z.1 = p ∧ z.2.2.2.2.toInt = (i : Int)) _ ⟨rfl, rfl⟩ ?_
  rintro i ⟨x1, x2, x3, x4, x5⟩ G hi ⟨k1, k2⟩ hG
  change LB_X7_owner_18 G m x1 x2 x3 x4 x5 Q
  dsimp only at k1 k2
  subst k1
  unfold LB_X7_owner_18
  refine ⟨fun _ => ?_, fun c => ?_⟩
  · unfold B_X7_owner_55
    refine LOOP_c 5 (fun j z => z.1 = x1 ∧ z.2.2.2.2.toInt = (j : Int)) _ ⟨rfl, rfl⟩ ?_
    rintro j ⟨y1, y2, y3, y4, y5⟩ G2 hj ⟨l1, l2⟩ hG2
    change LB_X7_owner_55 G2 m y1 y2 y3 y4 y5 Q
    dsimp only at l1 l2
    subst l1
    unfold LB_X7_owner_55
    have a30 := ti_add2 (show (30 : Int32).toInt = ((30 : Nat) : Int) from rfl) a (by omega)
    refine ⟨fun _ => ⟨fun _ => ⟨ti_in a b, h _⟩, fun _ => ⟨fun _ => ⟨ti_in a30 (by omega), h _⟩, fun _ => ⟨fun _ => h _, fun _ => ⟨fun _ => h _, fun _ => ⟨fun _ => s_estate hm (fun _ => sf_X7_ones (fun _ => h _)), fun _ => h _⟩⟩⟩⟩⟩, fun c => ?_⟩
    have c1 : j < H := by rw [ti_ge l2 hH] at c; omega
    have a20 := ti_add2 (show (20 : Int32).toInt = ((20 : Nat) : Int) from rfl) l2 (by omega)
    unfold B_X7_owner_88
    refine ⟨ti_in a20 (by omega), fun _ => ?_, fun _ => ?_⟩ <;> intro _ _ _ e <;> subst e <;> exact hG2 _ (by omega) ⟨rfl, ti_add l2 (by omega)⟩
  · have c1 : i < 4 := by rw [ti_ge (m := 4) k2 rfl] at c; omega
    unfold B_X7_owner_44
    refine ⟨ti_in k2 c1, fun _ => ?_, fun _ => ?_⟩ <;> intro _ _ _ e <;> subst e <;> exact hG _ c1 ⟨rfl, ti_add k2 (by omega)⟩
theorem s_hole {p q : Int32} {m : CS} {Q : Int32 → Prop} (hm : Mk m) (h : ∀ r, Q r) : wp_X7_hole p q m Q := by
  unfold wp_X7_hole
  refine s_isHole hm (fun P a b => ⟨fun _ => ?_, fun c => absurd c (by decide)⟩) ⟨fun c => absurd rfl c, fun _ => h _⟩
  have a20 := ti_add2 (show (20 : Int32).toInt = ((20 : Nat) : Int) from rfl) a (by omega)
  have a25 := ti_add2 (show (25 : Int32).toInt = ((25 : Nat) : Int) from rfl) a (by omega)
  exact ⟨fun _ => ⟨ti_in a b, h _⟩, fun _ => ⟨fun _ => ⟨ti_in a20 (by omega), h _⟩, fun _ => ⟨fun _ => ⟨ti_in a25 (by omega), h _⟩, fun _ => ⟨fun _ => s_of (L := 0) rfl (by omega) (fun _ _ _ => h _), fun _ => ⟨fun _ => s_of (L := 0) rfl (by omega) (fun _ _ _ => sf_X7_ones (fun _ => h _)), fun _ => h _⟩⟩⟩⟩⟩
theorem s_cell {p q : Int32} {m : CS} {Q : Int32 → Prop} (hm : Mk m) (h : ∀ r, Q r) : wp_X7_cell p q m Q := by
  unfold wp_X7_cell
  refine s_isCell (fun P a b => ⟨fun _ => ⟨ti_in a (by omega), ?_⟩, fun c => absurd c (by decide)⟩) ⟨fun c => absurd rfl c, fun _ => h _⟩
  intro x3 _
  exact ⟨fun _ => ⟨fun _ => ⟨fun _ => h _, fun _ => h _⟩, fun _ => h _⟩, fun _ => ⟨fun _ => ⟨fun _ => h _, fun _ => h _⟩, fun _ => ⟨fun _ => s_ownerOf (L := 0) rfl (by omega) a b hm (fun _ _ => h _), fun _ => h _⟩⟩⟩
theorem s_way {p q : Int32} {m : CS} {Q : Int32 → Prop} (h : ∀ r, Q r) : wp_X7_way p q m Q := by
  unfold wp_X7_way
  exact s_isCell (fun _ _ _ => ⟨fun _ => h _, fun _ => s_isCell (fun _ _ _ => ⟨fun _ => ⟨fun _ => s_of (L := 0) rfl (by omega) (fun _ _ _ => sf_X7_stepsBy (fun _ => h _)), fun _ => h _⟩, fun _ => h _⟩) ⟨fun c => absurd rfl c, fun _ => h _⟩⟩) ⟨fun _ => h _, fun c => absurd rfl c⟩
theorem s_count {p : Int32} {m : CS} {Q : Int32 → Prop} (hm : Mk m) (h : ∀ r, Q r) : wp_X7_count p m Q := by
  unfold wp_X7_count
  exact ⟨fun _ => h _, fun _ => ⟨fun _ => h _, fun _ => ⟨fun _ => h _, fun _ => ⟨fun _ => ⟨ti_in (i := 34) rfl (by omega), h _⟩, fun _ => ⟨fun _ => s_of (L := 0) rfl (by omega) (fun _ _ _ => s_of (L := 0) rfl (by omega) (fun _ _ _ => h _)), fun _ => ⟨fun _ => s_of (L := 0) rfl (by omega) (fun _ _ _ => h _), fun _ => ⟨fun _ => s_alive (L := 0) rfl (by omega) hm (fun _ => h _), fun _ => ⟨fun _ => h _, fun _ => ⟨fun _ => h _, fun _ => h _⟩⟩⟩⟩⟩⟩⟩⟩⟩
