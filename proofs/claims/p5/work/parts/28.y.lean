theorem g_write {p : Int32} {Z Y : Nat → Nat → Nat} {S : Nat → CS} {a : AS} {Q : Int32 → (Nat → CS) → AS → Prop} (hl0 : 0 ≤ ((S 0).1 1).toInt ∧ ((S 0).1 1).toInt ≤ 48) (h : ∀ T : Nat → CS, (T 0).1 1 = wrL p ((S 0).1 1) → (T 6).1 3 = (S 6).1 3 → (T 0).2.2 = (S 0).2.2 → (T 0).2.1 0 = wrT p ((S 0).1 1) ((S 0).2.1 0) → Q (wrR p ((S 0).1 1)) T a) : wp_X6_write p Z Y S a Q := by
  obtain ⟨l, hl⟩ := nat_of hl0.1
  unfold wp_X6_write
  unfold wrR wrL wrT at h
  have z0 : (0 : Int32).toInt = 0 := rfl
  have z255 : (255 : Int32).toInt = 255 := rfl
  have z48 : (48 : Int32).toInt = 48 := rfl
  refine ⟨fun c => ?_, fun c => ⟨fun c2 => ⟨fun c3 => ?_, fun _ => ⟨fun c4 => ?_, fun c4 => ?_⟩⟩, fun c2 => ?_⟩⟩
  · rw [Int32.lt_iff_toInt_lt] at c
    have v : ¬ (0 ≤ p.toInt ∧ p.toInt ≤ 255) := by omega
    simp only [if_neg v] at h
    exact h S rfl rfl rfl rfl
  · rw [Int32.lt_iff_toInt_lt] at c3
    omega
  · rw [Int32.lt_iff_toInt_lt] at c c4
    rw [Int32.le_iff_toInt_le] at c2
    have v : 0 ≤ p.toInt ∧ p.toInt ≤ 255 := by omega
    have w : ¬ (S 0).1 1 = 48 := by
      intro e
      rw [e] at c4
      omega
    simp only [if_pos v, if_neg w] at h
    refine ⟨ti_in hl (by omega), ?_⟩
    intro S6 e6 S7 e7
    subst e6; subst e7
    exact h _ rfl rfl rfl rfl
  · rw [Int32.lt_iff_toInt_lt] at c c4
    rw [Int32.le_iff_toInt_le] at c2
    have v : 0 ≤ p.toInt ∧ p.toInt ≤ 255 := by omega
    have w : (S 0).1 1 = 48 := Int32.toInt_inj.mp (by omega)
    simp only [if_pos v, if_pos w] at h
    exact h S rfl rfl rfl rfl
  · rw [Int32.le_iff_toInt_le] at c2
    have v : ¬ (0 ≤ p.toInt ∧ p.toInt ≤ 255) := by omega
    simp only [if_neg v] at h
    exact h S rfl rfl rfl rfl
theorem g_addOne {p q r : Int32} {s : CS} {Q : CS → Prop} (h0 : 0 ≤ (s.1 3).toInt) (h6 : (s.1 3).toInt < 6) (h : ∀ t : CS, t.1 3 = s.1 3 + 1 → Q t) : wp_X4_addOne p q r s Q := by
  obtain ⟨l, hl⟩ := nat_of h0
  unfold wp_X4_addOne
  have z0 : (0 : Int32).toInt = 0 := rfl
  have z6 : (6 : Int32).toInt = 6 := rfl
  refine ⟨fun c => ?_, fun _ => ⟨fun c => ?_, fun _ => ⟨ti_in hl (by omega), ?_⟩⟩⟩
  · rw [Int32.lt_iff_toInt_lt] at c
    omega
  · rw [Int32.le_iff_toInt_le] at c
    omega
  intro s4 e4
  have f4 : s4.1 = s.1 := by rw [e4]; rfl
  refine ⟨by rw [f4]; exact ti_in hl (by omega), ?_⟩
  intro s6 e6
  have f6 : s6.1 = s.1 := by rw [e6]; exact f4
  refine ⟨by rw [f6]; exact ti_in hl (by omega), ?_⟩
  intro s8 e8 s9 e9
  have f8 : s8.1 = s.1 := by rw [e8]; exact f6
  exact h s9 (by rw [e9, sI_eq, f8])
theorem g_taste {p q r : Int32} {Z Y : Nat → Nat → Nat} {S : Nat → CS} {a : AS} {Q : Int32 → (Nat → CS) → AS → Prop} (hl0 : 0 ≤ ((S 6).1 3).toInt ∧ ((S 6).1 3).toInt ≤ 6) (h : ∀ T : Nat → CS, (T 0).1 1 = (S 0).1 1 → (T 6).1 3 = tsT p q r ((S 6).1 3) → (T 0).2.2 = (S 0).2.2 → (T 0).2.1 0 = (S 0).2.1 0 → Q (tsR p q r ((S 6).1 3)) T a) : wp_X6_taste p q r Z Y S a Q := by
  unfold wp_X6_taste
  unfold tsR tsT at h
  have z0 : (0 : Int32).toInt = 0 := rfl
  have z9 : (9 : Int32).toInt = 9 := rfl
  have z1 : (1 : Int32).toInt = 1 := rfl
  have z6 : (6 : Int32).toInt = 6 := rfl
  refine e_hasCell (fun v => ⟨fun _ => ?_, fun c => absurd c (by decide)⟩) (fun v => ⟨fun c => absurd rfl c, fun _ => ?_⟩)
  · simp only [if_pos v] at h
    have bad : ¬ (0 ≤ q.toInt ∧ q.toInt ≤ 9) → Q (-2) S a := by
      intro w
      simp only [if_neg w] at h
      exact h S rfl rfl rfl rfl
    refine ⟨fun c => bad ?_, fun c => ⟨fun c2 => bad ?_, fun c2 => ?_⟩⟩
    · rw [Int32.lt_iff_toInt_lt] at c
      omega
    · rw [Int32.lt_iff_toInt_lt] at c2
      omega
    rw [Int32.lt_iff_toInt_lt] at c c2
    have w : 0 ≤ q.toInt ∧ q.toInt ≤ 9 := by omega
    simp only [if_pos w] at h
    have bad2 : ¬ (0 ≤ r.toInt ∧ r.toInt ≤ 1) → Q (-2) S a := by
      intro u
      simp only [if_neg u] at h
      exact h S rfl rfl rfl rfl
    refine ⟨fun c => bad2 ?_, fun c => ⟨fun c2 => ?_, fun c2 => bad2 ?_⟩⟩
    · rw [Int32.lt_iff_toInt_lt] at c
      omega
    · rw [Int32.lt_iff_toInt_lt] at c
      rw [Int32.le_iff_toInt_le] at c2
      have u : 0 ≤ r.toInt ∧ r.toInt ≤ 1 := by omega
      simp only [if_pos u] at h
      refine ⟨fun c3 => ?_, fun c3 => ?_⟩
      · rw [Int32.lt_iff_toInt_lt] at c3
        have n6 : ¬ (S 6).1 3 = 6 := by
          intro e
          rw [e] at c3
          omega
        simp only [if_neg n6] at h
        have g : ∀ t, B_X6_taste_62 Z Y t q p S a Q := by
          intro t
          unfold B_X6_taste_62
          refine g_addOne hl0.1 (by omega) (fun s1 hs => ?_)
          intro S2 e2
          subst e2
          have e3 : (va_up S 6 s1 6).1 3 = (S 6).1 3 + 1 := hs
          rw [e3]
          exact h _ rfl e3 rfl rfl
        exact ⟨fun _ => g _, fun _ => g _⟩
      · rw [Int32.lt_iff_toInt_lt] at c3
        have n6 : (S 6).1 3 = 6 := Int32.toInt_inj.mp (by omega)
        simp only [if_pos n6] at h
        exact h S rfl rfl rfl rfl
    · rw [Int32.le_iff_toInt_le] at c2
      omega
  · simp only [if_neg v] at h
    exact h S rfl rfl rfl rfl
theorem g_years {p : Int32} {Z Y : Nat → Nat → Nat} {S : Nat → CS} {a : AS} {Q : Int32 → (Nat → CS) → AS → Prop} (h : ∀ r (T : Nat → CS), (T 0).1 1 = (S 0).1 1 → (T 6).1 3 = (S 6).1 3 → (T 0).2.2 = yrF p (S 0).2.2 → (T 0).2.1 0 = (S 0).2.1 0 → Q r T a) : wp_X6_years p Z Y S a Q := by
  unfold wp_X6_years
  unfold yrF at h
  have z1 : (1 : Int32).toInt = 1 := rfl
  have z30 : (30 : Int32).toInt = 30 := rfl
  refine ⟨fun c => ?_, fun c => ⟨fun c2 => ?_, fun c2 => ?_⟩⟩
  · rw [Int32.lt_iff_toInt_lt] at c
    rw [if_neg (by omega)] at h
    exact h _ S rfl rfl rfl rfl
  · rw [Int32.lt_iff_toInt_lt] at c
    rw [Int32.le_iff_toInt_le] at c2
    rw [if_pos (by omega)] at h
    obtain ⟨N, hN⟩ := nat_of (p := p) (by omega)
    rw [show p.toInt.toNat = N by omega] at h
    refine sf_X5_copyFrom (fun v => ?_)
    intro S22 e22
    subst e22
    unfold B_X6_years_27
    refine LOOP_c N (fun i z => z.1 = p ∧ z.2.1.toInt = (i : Int) ∧ z.2.2.2 = a ∧ (z.2.2.1 0).1 1 = (S 0).1 1 ∧ (z.2.2.1 6).1 3 = (S 6).1 3 ∧ (z.2.2.1 0).2.2 = sdn (S 0).2.2 i ∧ (z.2.2.1 0).2.1 0 = (S 0).2.1 0) _ ⟨rfl, rfl, rfl, rfl, rfl, rfl, rfl⟩ ?_
    rintro i ⟨x1, x2, T, a2⟩ G hi ⟨k1, k2, k3, k4, k5, k6, k7⟩ hG
    change LB_X6_years_27 G Z Y x1 x2 T a2 Q
    dsimp only at k1 k2 k3 k4 k5 k6 k7
    subst k1 k3
    unfold LB_X6_years_27
    refine ⟨fun c => ?_, fun c => ?_⟩
    · have c1 : i = N := by rw [ti_ge k2 hN] at c; omega
      subst c1
      exact sf_X5_holeCells (fun _ => sf_J6_bitCount_0f7a4 (fun _ => h _ T k4 k5 k6 k7))
    have c1 : i < N := by rw [ti_ge k2 hN] at c; omega
    intro S5 e5 x3 _
    have f1 : (S5 0).1 1 = (S 0).1 1 := by rw [e5]; exact k4
    have f2 : (S5 6).1 3 = (S 6).1 3 := by rw [e5]; exact k5
    have f3 : (S5 0).2.2 = sdn (S 0).2.2 (i + 1) := by
      rw [e5, sdn, ← k6]
      rfl
    have f4 : (S5 0).2.1 0 = (S 0).2.1 0 := by rw [e5]; exact k7
    clear e5
    have nx : ∀ (U : Nat → CS), U 0 = S5 0 → U 6 = S5 6 → B_X6_years_112 G Z Y x1 x2 U a2 Q := by
      intro U u0 u6
      unfold B_X6_years_112
      intro _ e
      subst e
      refine hG _ c1 ⟨rfl, ti_add k2 (by omega), rfl, ?_, ?_, ?_, ?_⟩
      · show (U 0).1 1 = _
        rw [u0]; exact f1
      · show (U 6).1 3 = _
        rw [u6]; exact f2
      · show (U 0).2.2 = _
        rw [u0]; exact f3
      · show (U 0).2.1 0 = _
        rw [u0]; exact f4
    refine ⟨fun _ => sf_X5_refusalToEat (fun _ => ⟨fun _ => nx _ rfl rfl, fun _ => sf_X5_eatCell (fun _ _ => ?_)⟩), fun _ => sf_X5_passDay (fun _ _ => ?_)⟩ <;> intro _ e <;> subst e <;> exact nx _ rfl rfl
  · rw [Int32.le_iff_toInt_le] at c2
    rw [if_neg (by omega)] at h
    exact h _ S rfl rfl rfl rfl
theorem g_share {p q : Int32} {Z Y : Nat → Nat → Nat} {fF : FA} {S : Nat → CS} {a : AS} {Q : Int32 → Prop} (h : ∀ r, Q r) : wp_X6_share p q Z Y fF S a Q := by
  unfold wp_X6_share
  refine sf_X1_hasOwner (fun _ _ => ⟨fun _ => ?_, fun _ => h _⟩)
  intro x3 _ x4 _
  unfold B_X6_share_36
  refine LOOP_c 16 (fun i z => z.2.2.2.2.toInt = (i : Int)) _ rfl ?_
  rintro i ⟨y2, y3, y4, y5, y6⟩ G hi k1 hG
  change LB_X6_share_36 G Z Y fF S a y2 y3 y4 y5 y6 Q
  dsimp only at k1
  unfold LB_X6_share_36
  refine ⟨fun _ => sf_X3_get (by decide) (fun _ => sf_X6_partOfFraction (fun _ => h _)), fun c => ?_⟩
  have c1 : i < 16 := by rw [ti_ge (m := 16) k1 rfl] at c; omega
  have nx : ∀ t, B_X6_share_119 G Z Y fF S a y2 y3 y4 t y6 Q := by
    intro t
    unfold B_X6_share_119
    intro _ e
    subst e
    exact hG _ c1 (ti_add k1 (by omega))
  exact ⟨fun _ => nx _, fun _ => ⟨fun _ => nx _, fun _ => sf_J6_bitCount_0f7a4 (fun _ => sf_X3_get (by decide) (fun _ => sf_X3_get (by decide) (fun _ => fun _ _ => sfx_X6_largestEstate (fun _ => sfx_X6_largestEstate (fun _ => fun _ _ => nx _)))))⟩⟩
theorem g_dairy {Z Y : Nat → Nat → Nat} {S : Nat → CS} {a : AS} {Q : Int32 → (Nat → Nat → Nat) → (Nat → CS) → AS → Prop} (ha : Aok Y a) (h : ∀ r (Z2 : Nat → Nat → Nat) (T : Nat → CS) (a2 : AS), Z2 0 0 = Z 0 0 → Aok Y a2 → XFr S T → Q r Z2 T a2) : wp_X6_dairy Z Y S a Q := by
  unfold wp_X6_dairy
  refine sf_X1_readAll (by decide) (fun r v => ?_)
  intro S4 e4
  subst e4
  refine ⟨fun _ => sf_X5_beginWith (fun v6 => ?_), fun _ => h _ _ _ _ rfl ha ⟨rfl, rfl, rfl, rfl⟩⟩
  intro S8 e8
  subst e8
  refine sf_X0_forgetAll ha (fun a9 h9 => ?_)
  intro S10 e10
  subst e10
  exact h _ _ _ _ rfl h9 ⟨rfl, rfl, rfl, rfl⟩
