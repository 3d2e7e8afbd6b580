theorem s_holeCells {p : Int32} {m : CS} {Q : Int32 → Prop} (hm : Mk m) (h : ∀ r, Q r) : wp_X7_holeCells p m Q := by
  obtain ⟨H, hH⟩ := nat_of hm.2.1.1
  have hH5 := hm.2.1.2
  unfold wp_X7_holeCells B_X7_holeCells_4
  refine LOOP_c 5 (fun i z => z.2.2.toInt = (i : Int)) _ rfl ?_
  rintro i ⟨x1, x2, x3⟩ G hi k1 hG
  change LB_X7_holeCells_4 G m x1 x2 x3 Q
  dsimp only at k1
  unfold LB_X7_holeCells_4
  refine ⟨fun _ => h _, fun c => ?_⟩
  have c1 : i < H := by rw [ti_ge k1 hH] at c; omega
  have a20 := ti_add2 (show (20 : Int32).toInt = ((20 : Nat) : Int) from rfl) k1 (by omega)
  have nx : ∀ t u, B_X7_holeCells_39 G m x1 x3 t u Q := by
    intro t u
    unfold B_X7_holeCells_39
    intro _ _ _ e
    subst e
    exact hG _ (by omega) (ti_add k1 (by omega))
  exact ⟨ti_in a20 (by omega), fun _ => nx _ _, fun _ => s_of (L := 0) rfl (by omega) (fun _ _ _ => sf_X7_ones (fun _ => nx _ _))⟩
theorem s_gain {p a b : Int32} {m : CS} {Q : Int32 → Prop} (hm : Mk m) (h : ∀ r, Q r) : wp_X7_gain p a b m Q := by
  unfold wp_X7_gain
  exact ⟨fun _ => ⟨fun _ => h _, fun _ => h _⟩, fun _ => s_holeCells hm (fun _ => h _)⟩
theorem s_rests {p q r : Int32} {m : CS} {Q : Int32 → Prop} (hm : Mk m) (h : ∀ r, Q r) : wp_X7_rests p q r m Q := by
  unfold wp_X7_rests
  refine s_isOwner hm (fun _ _ _ => ⟨fun _ => h _, fun _ => s_isOwner hm (fun _ _ _ => ⟨fun _ => ⟨fun _ => h _, fun _ => sf_X7_in (fun _ _ => ⟨fun _ => ?_, fun _ => h _⟩)⟩, fun _ => h _⟩) ⟨fun c => absurd rfl c, fun _ => h _⟩⟩) ⟨fun _ => h _, fun c => absurd rfl c⟩
  unfold B_X7_rests_46
  refine LOOP_c 4 (fun i z => z.2.2.2.2.2.toInt = (i : Int)) _ rfl ?_
  rintro i ⟨x1, x2, x3, x4, x5, x6⟩ G hi k1 hG
  change LB_X7_rests_46 G m x1 x2 x3 x4 x5 x6 Q
  dsimp only at k1
  unfold LB_X7_rests_46
  refine ⟨fun _ => ⟨fun _ => h _, fun _ => h _⟩, fun c => ?_⟩
  have c1 : i < 4 := by rw [ti_ge (m := 4) k1 rfl] at c; omega
  intro x7 _ x8 _
  have n158 : ∀ a t u, B_X7_rests_158 G m x1 x2 x3 a x6 t u Q := by
    intro a t u
    unfold B_X7_rests_158
    intro _ _ _ e
    subst e
    exact hG _ c1 (ti_add k1 (by omega))
  have n119 : ∀ t, B_X7_rests_119 G m x1 x2 x3 x4 x5 x6 x7 x8 t Q := by
    intro t
    unfold B_X7_rests_119 B_X7_rests_142 B_X7_rests_144
    exact ⟨fun _ => ⟨fun _ => n158 _ _ _, fun _ => n158 _ _ _⟩, fun _ => ⟨fun _ => ⟨fun _ => n158 _ _ _, fun _ => n158 _ _ _⟩, fun _ => ⟨fun _ => n158 _ _ _, fun _ => n158 _ _ _⟩⟩⟩
  unfold B_X7_rests_118
  exact s_gain hm (fun _ => s_gain hm (fun _ => ⟨fun _ => n119 _, fun _ => s_gain hm (fun _ => s_gain hm (fun _ => ⟨fun _ => n119 _, fun _ => n119 _⟩))⟩))
