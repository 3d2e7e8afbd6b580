theorem sfx_X6_keep {p0 : Int32} {Z : Nat → Nat → Nat} {Y : Nat → Nat → Nat} {S : Nat → CS} {a : AS} {Q : Int32 → (Nat → CS) → AS → Prop} (ha : Aok Y a) (h : ∀ (r : Int32) (S2 : Nat → CS) (a2 : AS), Aok Y a2 → XFr S S2 → Q r S2 a2) : wp_X6_keep p0 Z Y S a Q := by
  unfold wp_X6_keep
  refine sfx_X6_slotAt (Or.inl ⟨rfl, h _ _ _ ha (XFr_r S)⟩) (fun k hk => Or.inr ⟨k, rfl, hk, ?_⟩)
  refine sf_X5_copyFrom (fun v => ?_)
  intro S6 e6
  subst e6
  intro S7 e7
  subst e7
  refine h _ _ _ ha ?_
  rcases hk with rfl | rfl <;> exact ⟨rfl, rfl, rfl, rfl⟩
theorem sfx_X6_again {p0 : Int32} {Z : Nat → Nat → Nat} {Y : Nat → Nat → Nat} {S : Nat → CS} {a : AS} {Q : Int32 → (Nat → CS) → AS → Prop} (ha : Aok Y a) (h : ∀ (r : Int32) (S2 : Nat → CS) (a2 : AS), Aok Y a2 → XFr S S2 → Q r S2 a2) : wp_X6_again p0 Z Y S a Q := by
  unfold wp_X6_again
  refine sfx_X6_slotAt (Or.inl ⟨rfl, h _ _ _ ha (XFr_r S)⟩) (fun k hk => Or.inr ⟨k, rfl, ⟨fun _ => ⟨hk, ?_⟩, fun _ => h _ _ _ ha (XFr_r S)⟩⟩)
  refine sf_X5_copyFrom (fun v => ?_)
  intro S7 e7
  subst e7
  refine sf_X0_forgetAll ha (fun a8 h8 => h _ _ _ h8 ?_)
  rcases hk with rfl | rfl <;> exact ⟨rfl, rfl, rfl, rfl⟩
set_option maxHeartbeats 400000 in
theorem sfx_X6_judge {p0 : Int32} {p1 : Int64} {Z : Nat → Nat → Nat} {Y : Nat → Nat → Nat} {S : Nat → CS} {a : AS} {Q : Int32 → (Nat → CS) → AS → Prop} (ha : Aok Y a) (h : ∀ (r : Int32) (S2 : Nat → CS) (a2 : AS), Aok Y a2 → XFr S S2 → Q r S2 a2) : wp_X6_judge p0 p1 Z Y S a Q := by
  have k76 : ∀ (x1 : Int32) (x4 x6 : Int64) (T : Nat → CS), ¬ x4 = 0 → XFr S T → B_X6_judge_76 Z Y x1 x4 x6 (0 : Int32) T a Q := by
    intro x1 x4 x6 T h4 hT
    unfold B_X6_judge_76
    refine LOOP_m0 (fun b z => 0 ≤ (z.2.2.2.1).toInt ∧ z.2.1 = b.2.1 ∧ z.2.2.2.2.2 = b.2.2.2.2.2 ∧ XFr S z.2.2.2.2.1) (fun z => (z.1.toInt - (z.2.2.2.1).toInt).toNat) _ ⟨i0_ok, rfl, rfl, hT⟩ ?_
    rintro ⟨y1, y4, y6, y8, T2, a2⟩ G ⟨h0, hx, hx2, hX⟩ hG
    change LB_X6_judge_76 G Z Y y1 y4 y6 y8 T2 a2 Q
    dsimp only at h0 hx hx2 hX
    subst hx hx2
    unfold LB_X6_judge_76
    refine ⟨fun _ => h _ _ _ ha hX, fun c => ⟨h4, ?_⟩⟩
    intro x9 e9
    subst e9
    refine ⟨h4, ?_⟩
    intro x65 e65
    subst e65
    refine sf_X5_doTold (fun r hr v => ?_)
    intro S9 eS9
    subst eS9
    refine ⟨fun _ => ?_, fun _ => h _ _ _ ha (XFr_t hX ⟨rfl, rfl, rfl, rfl⟩)⟩
    intro x8 e8
    subst e8
    exact hG _ ⟨(step_ok h0 c).1, rfl, rfl, XFr_t hX ⟨rfl, rfl, rfl, rfl⟩⟩ (step_ok h0 c).2
  unfold wp_X6_judge
  refine ⟨fun _ => h _ _ _ ha (XFr_r S), fun c1 => ⟨fun c2 => ?_, fun _ => h _ _ _ ha (XFr_r S)⟩⟩
  unfold B_X6_judge_19
  refine LOOP_m0 (fun b z => z.1 = p0 ∧ z.2.2.2.2 = b.2.2.2.2 ∧ ((z.2.2.2.1 = 1 ∧ z.2.2.1 = 1) ∨ (z.2.2.2.1 = 2 ∧ z.2.2.1 = 10000) ∨ (z.2.2.2.1 = 3 ∧ z.2.2.1 = 100000000))) (fun z => ((3 : Int32).toInt - (z.2.2.2.1).toInt).toNat) _ ⟨rfl, rfl, Or.inl ⟨rfl, rfl⟩⟩ ?_
  rintro ⟨y1, y2, y4, y6, T2, a2⟩ G ⟨h0, hx, hor⟩ hG
  change LB_X6_judge_19 G Z Y y1 y2 y4 y6 T2 a2 Q
  dsimp only at h0 hx hor
  have hT : T2 = S ∧ a2 = a := by
    constructor
    · exact congrArg Prod.fst hx
    · exact congrArg Prod.snd hx
  obtain ⟨rfl, rfl⟩ := hT
  subst h0
  have h4 : ¬ y4 = 0 := by
    rcases hor with ⟨_, e⟩ | ⟨_, e⟩ | ⟨_, e⟩ <;> subst e <;> decide
  unfold LB_X6_judge_19
  refine ⟨fun _ => ⟨fun _ => h _ _ _ ha (XFr_r _), fun _ => ⟨h4, ⟨fun _ => ?_, fun _ => h _ _ _ ha (XFr_r _)⟩⟩⟩, fun c => ?_⟩
  · refine sf_X5_copyFrom (fun v => ?_)
    intro S18 e18
    subst e18
    exact k76 _ _ _ _ h4 ⟨rfl, rfl, rfl, rfl⟩
  · intro x4 e4
    subst e4
    intro x6 e6
    subst e6
    rcases hor with ⟨e, f⟩ | ⟨e, f⟩ | ⟨e, f⟩
    · subst e f
      exact hG _ ⟨rfl, rfl, Or.inr (Or.inl ⟨(show (1 : Int32) + 1 = 2 by decide), (show (1 : Int64) * 10000 = 10000 by decide)⟩)⟩ (show ((3 : Int32).toInt - ((1 : Int32) + 1).toInt).toNat < ((3 : Int32).toInt - (1 : Int32).toInt).toNat by decide)
    · subst e f
      exact hG _ ⟨rfl, rfl, Or.inr (Or.inr ⟨(show (2 : Int32) + 1 = 3 by decide), (show (10000 : Int64) * 10000 = 100000000 by decide)⟩)⟩ (show ((3 : Int32).toInt - ((2 : Int32) + 1).toInt).toNat < ((3 : Int32).toInt - (2 : Int32).toInt).toNat by decide)
    · subst e
      exact absurd c2 c
