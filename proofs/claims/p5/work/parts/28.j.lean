def yearsF (p : Int32) : Int32 := if 1 ≤ p.toInt ∧ p.toInt ≤ 30 then 0 else -2
theorem x_years {p : Int32} {Z Y : Nat → Nat → Nat} {Q : Int32 → (Nat → CS) → AS → Prop} (h : ∀ S a, Q (yearsF p) S a) : wp_X6_years p Z Y S0 (a0 Y) Q := by
  unfold wp_X6_years
  unfold yearsF at h
  have e1 : (1 : Int32).toInt = 1 := rfl
  have e30 : (30 : Int32).toInt = 30 := rfl
  refine ⟨fun c => ?_, fun c => ⟨fun c2 => ?_, fun c2 => ?_⟩⟩
  · rw [Int32.lt_iff_toInt_lt] at c
    rw [if_neg (by omega)] at h
    exact h _ _
  · rw [Int32.lt_iff_toInt_lt] at c
    rw [Int32.le_iff_toInt_le] at c2
    rw [if_pos (by omega)] at h
    obtain ⟨n, hn⟩ := nat_of (p := p) (by omega)
    refine e_copy (fun v hv hv2 => ?_)
    intro S e
    have hW : Wz (S 5) := by
      subst e
      exact ⟨fun i hi => (hv i hi).trans (S0w i hi), hv2.trans S0e⟩
    have hD : Dz (S 1) := by
      subst e
      exact ⟨rfl, rfl⟩
    clear e
    unfold B_X6_years_27
    refine LOOP_c n (fun i z => z.1 = p ∧ z.2.1.toInt = (i : Int) ∧ Wz (z.2.2.1 5) ∧ Dz (z.2.2.1 1)) _ ⟨rfl, rfl, hW, hD⟩ ?_
    rintro i ⟨x1, x2, S2, a2⟩ G hi ⟨k1, k2, k4, k5⟩ hG
    change LB_X6_years_27 G Z Y x1 x2 S2 a2 Q
    dsimp only at k1 k2 k4 k5
    subst k1
    unfold LB_X6_years_27
    refine ⟨fun _ => e_holeCells k4.1 (e_bits0 (h _ _)), fun c5 => ?_⟩
    rw [Int32.le_iff_toInt_le] at c5
    intro S5 e x3 _
    have k4' : Wz (S5 5) := by
      subst e
      exact k4
    have k5' : Dz (S5 1) := by
      subst e
      exact k5
    refine ⟨fun _ => ?_, fun _ => ?_⟩
    · unfold wp_X5_refusalToEat
      refine e_noOwner k5'.1 ⟨fun _ => ⟨fun _ => ?_, fun c => absurd c (by decide)⟩, fun c => absurd rfl c⟩
      unfold B_X6_years_112
      intro _ e2
      subst e2
      exact hG _ (by omega) ⟨rfl, ti_add k2 (by omega), k4', k5'⟩
    · refine e_passDay k5'.1 k5'.2 k4'.1 ?_
      intro _ e1
      unfold B_X6_years_112
      intro _ e2
      subst e1; subst e2
      exact hG _ (by omega) ⟨rfl, ti_add k2 (by omega), k4', k5'⟩
  · rw [Int32.le_iff_toInt_le] at c2
    rw [if_neg (by omega)] at h
    exact h _ _
theorem r_years {p : Int32} {Q : Int32 → CS → Prop} (h : ∀ m, Q (yearsF p) m) : wp_X7_years p m0 Q := by
  unfold wp_X7_years
  unfold yearsF at h
  refine e_in3 1 30 rfl rfl (fun a b => ⟨fun _ => ?_, fun c => absurd c (by decide)⟩) (fun a => ⟨fun c => absurd rfl c, fun _ => ?_⟩)
  · rw [if_pos (by omega)] at h
    obtain ⟨n, hn⟩ := nat_of (p := p) (by omega)
    refine e_layTrial m0n (fun m e1 e2 e3 => ?_)
    have hM : Mt m := ⟨by rw [e1]; rfl, by rw [e1]; rfl, e3⟩
    unfold B_X7_years_21
    refine LOOP_c n (fun i z => z.1 = p ∧ z.2.1.toInt = (i : Int) ∧ Mt z.2.2) _ ⟨rfl, rfl, hM⟩ ?_
    rintro i ⟨x1, x2, s⟩ G hi ⟨k1, k2, k3⟩ hG
    change LB_X7_years_21 G x1 x2 s Q
    dsimp only at k1 k2 k3
    subst k1
    unfold LB_X7_years_21
    refine ⟨fun _ => ?_, fun c5 => ?_⟩
    · exact e_of7 (L := 1) rfl (by omega) k3.2.2 (e_ofz (L := 1) rfl (by omega) k3.2.2 (by decide) (e_ones20 (h _)))
    rw [Int32.le_iff_toInt_le] at c5
    intro s6 e x3 _
    have hz : ∀ v : Int64, Mt (sL s v) := fun v => k3
    have k3' : Mt s6 := by
      rw [e]
      exact hz _
    refine ⟨fun _ => ?_, fun _ => ?_⟩
    · unfold wp_X7_canEat
      refine e_noOwnerM k3'.1 ⟨fun _ => ⟨fun _ => ?_, fun c => absurd rfl c⟩, fun c => absurd rfl c⟩
      unfold B_X7_years_88
      intro _ e2
      subst e2
      exact hG _ (by omega) ⟨rfl, ti_add k2 (by omega), k3'⟩
    · refine e_passOn (L := 1) rfl (by omega) k3'.2.1 (fun m' _ g _ => ?_)
      unfold B_X7_years_88
      intro _ e2
      subst e2
      exact hG _ (by omega) ⟨rfl, ti_add k2 (by omega), g k3'⟩
  · rw [if_neg (by omega)] at h
    exact h _
def keepF (p : Int32) (v : Int32) : Int32 := if 0 ≤ p.toInt ∧ p.toInt ≤ 1 then v else -1
theorem e_slotAt {p : Int32} {Z Y : Nat → Nat → Nat} {S : Nat → CS} {a : AS} {Q : Option Nat → Prop} (h0 : ¬ (0 ≤ p.toInt ∧ p.toInt ≤ 1) → Q none) (h1 : ∀ k, (0 ≤ p.toInt ∧ p.toInt ≤ 1) → (k = 7 ∨ k = 8) → Q (some (Z k 0))) : wp_X6_slotAt p Z Y S a Q := by
  unfold wp_X6_slotAt B_X6_slotAt_22
  have e0 : (0 : Int32).toInt = 0 := rfl
  have e2 : (2 : Int32).toInt = 2 := rfl
  rw [Int32.lt_iff_toInt_lt, Int32.le_iff_toInt_le]
  refine ⟨fun c => h0 (by omega), fun c => ⟨fun c2 => h0 (by omega), fun c2 => ?_⟩⟩
  refine ⟨by rw [vp_in_iff]; omega, ?_⟩
  by_cases e : p.toNatClampNeg = 0
  · refine ⟨7, ?_, h1 7 (by omega) (Or.inl rfl)⟩
    unfold slF
    rw [if_pos e]
  · refine ⟨8, ?_, h1 8 (by omega) (Or.inr rfl)⟩
    unfold slF
    rw [if_neg e]
theorem x_keep {p : Int32} {Z Y : Nat → Nat → Nat} {Q : Int32 → (Nat → CS) → AS → Prop} (h : ∀ S a, Q (keepF p 0) S a) : wp_X6_keep p Z Y S0 (a0 Y) Q := by
  unfold wp_X6_keep
  unfold keepF at h
  refine e_slotAt (fun c => Or.inl ⟨rfl, ?_⟩) (fun k c hk => Or.inr ⟨k, rfl, hk, ?_⟩)
  · rw [if_neg c] at h
    exact h _ _
  · rw [if_pos c] at h
    refine e_copy (fun v hv hv2 => ?_)
    intro S6 e6 S7 e7
    have e : (S7 4).1 5 = 0 := by
      subst e7; subst e6
      rfl
    rw [e]
    exact h _ _
theorem x_again {p : Int32} {Z Y : Nat → Nat → Nat} {Q : Int32 → (Nat → CS) → AS → Prop} (h : ∀ S a, Q (keepF p (-3)) S a) : wp_X6_again p Z Y S0 (a0 Y) Q := by
  unfold wp_X6_again
  unfold keepF at h
  refine e_slotAt (fun c => Or.inl ⟨rfl, ?_⟩) (fun k c hk => Or.inr ⟨k, rfl, fun c2 => absurd ?_ c2, fun _ => ?_⟩)
  · rw [if_neg c] at h
    exact h _ _
  · show (0 : Int32) &&& _ = 0
    exact Int32.zero_and
  · rw [if_pos c] at h
    exact h _ _
theorem r_keep {p : Int32} {Q : Int32 → CS → Prop} (h : ∀ m, Q (keepF p 0) m) : wp_X7_keep p m0 Q := by
  unfold wp_X7_keep
  unfold keepF at h
  refine e_in3 0 1 rfl rfl (fun a b => ⟨fun _ => ?_, fun c => absurd c (by decide)⟩) (fun a => ⟨fun c => absurd rfl c, fun _ => ?_⟩)
  · rw [if_pos (by omega)] at h
    obtain ⟨n, hn⟩ := nat_of a
    refine ⟨ti_in hn (by omega), ?_⟩
    intro s e
    have hs : s.2.1 5 34 = 0 := by
      subst e
      rfl
    clear e
    unfold B_X7_keep_21
    refine LOOP_c 35 (fun i z => z.1 = p ∧ z.2.1.toInt = (i : Int) ∧ z.2.2.2.1 5 34 = 0) _ ⟨rfl, rfl, hs⟩ ?_
    rintro i ⟨x1, x2, s⟩ G hi ⟨k1, k2, k3⟩ hG
    change LB_X7_keep_21 G x1 x2 s Q
    dsimp only at k1 k2 k3
    subst k1
    unfold LB_X7_keep_21
    refine ⟨fun _ => ⟨ti_in (i := 34) rfl (by omega), ?_⟩, fun c => ?_⟩
    · rw [show s.2.1 5 (34 : Int32).toNatClampNeg = 0 from k3]
      exact h _
    have c1 : i < 35 := by rw [ti_ge (m := 35) k2 rfl] at c; omega
    have h35 := ti_35 hn (by omega) k2 c1
    refine ⟨ti_in k2 (by omega), ti_in h35 (by omega), ?_⟩
    intro _ e _ e2
    subst e; subst e2
    exact hG _ c1 ⟨rfl, ti_add k2 (by omega), k3⟩
  · rw [if_neg (by omega)] at h
    exact h _
theorem r_again {p : Int32} {Q : Int32 → CS → Prop} (h : ∀ m, Q (keepF p (-3)) m) : wp_X7_again p m0 Q := by
  unfold wp_X7_again
  unfold keepF at h
  refine e_in3 0 1 rfl rfl (fun a b => ⟨fun _ => ?_, fun c => absurd c (by decide)⟩) (fun a => ⟨fun c => absurd rfl c, fun _ => ?_⟩)
  · rw [if_pos (by omega)] at h
    obtain ⟨n, hn⟩ := nat_of a
    exact ⟨ti_in hn (by omega), fun c => absurd rfl c, fun _ => h _⟩
  · rw [if_neg (by omega)] at h
    exact h _
def countF (p : Int32) : Int32 := if p = 0 then 0 else if p = 1 then 0 else if p = 2 then 0 else if p = 3 then 0 else if p = 4 then 0 else if p = 5 then 0 else if p = 6 then 0 else if p = 7 then 0 else if p = 8 then 0 else -2
theorem x_count {p : Int32} {Z Y : Nat → Nat → Nat} {Q : Int32 → Prop} (h : Q (countF p)) : wp_X6_count p Z Y S0 (a0 Y) Q := by
  unfold wp_X6_count
  unfold countF at h
  refine ⟨fun c => ?_, fun c => ?_⟩
  · rw [if_pos c] at h; exact h
  rw [if_neg c] at h
  refine ⟨fun c => ?_, fun c => ?_⟩
  · rw [if_pos c] at h; exact h
  rw [if_neg c] at h
  refine ⟨fun c => ?_, fun c => ?_⟩
  · rw [if_pos c] at h; exact h
  rw [if_neg c] at h
  refine ⟨fun c => ?_, fun c => ?_⟩
  · rw [if_pos c] at h; exact h
  rw [if_neg c] at h
  refine ⟨fun c => ?_, fun c => ?_⟩
  · rw [if_pos c] at h; exact e_holeCells S0w h
  rw [if_neg c] at h
  refine ⟨fun c => ?_, fun c => ?_⟩
  · rw [if_pos c] at h; exact h
  rw [if_neg c] at h
  refine ⟨fun c => ?_, fun c => ?_⟩
  · rw [if_pos c] at h; exact e_holesLeft S0w h
  rw [if_neg c] at h
  refine ⟨fun c => ?_, fun c => ?_⟩
  · rw [if_pos c] at h; exact h
  rw [if_neg c] at h
  refine ⟨fun c => ?_, fun c => ?_⟩
  · rw [if_pos c] at h; exact h
  rw [if_neg c] at h
  exact h
theorem r_count {p : Int32} {Q : Int32 → Prop} (h : Q (countF p)) : wp_X7_count p m0 Q := by
  unfold wp_X7_count
  unfold countF at h
  refine ⟨fun c => ?_, fun c => ?_⟩
  · rw [if_pos c] at h; exact h
  rw [if_neg c] at h
  refine ⟨fun c => ?_, fun c => ?_⟩
  · rw [if_pos c] at h; exact h
  rw [if_neg c] at h
  refine ⟨fun c => ?_, fun c => ?_⟩
  · rw [if_pos c] at h; exact h
  rw [if_neg c] at h
  refine ⟨fun c => ?_, fun c => ?_⟩
  · rw [if_pos c] at h; exact ⟨ti_in (i := 34) rfl (by omega), h⟩
  rw [if_neg c] at h
  refine ⟨fun c => ?_, fun c => ?_⟩
  · rw [if_pos c] at h; exact e_of7 (L := 0) rfl (by omega) m0n2 (e_ofz (L := 0) rfl (by omega) m0n2 (by decide) h)
  rw [if_neg c] at h
  refine ⟨fun c => ?_, fun c => ?_⟩
  · rw [if_pos c] at h; exact e_ofz (L := 0) rfl (by omega) m0n2 (by decide) h
  rw [if_neg c] at h
  refine ⟨fun c => ?_, fun c => ?_⟩
  · rw [if_pos c] at h; exact e_alive rfl h
  rw [if_neg c] at h
  refine ⟨fun c => ?_, fun c => ?_⟩
  · rw [if_pos c] at h; exact h
  rw [if_neg c] at h
  refine ⟨fun c => ?_, fun c => ?_⟩
  · rw [if_pos c] at h; exact h
  rw [if_neg c] at h
  exact h
def passF (p q r u : Int32) : Int32 := if isC p then (if isC q then (if 0 ≤ r.toInt ∧ r.toInt ≤ 10 then (if u = 0 then 1 else if p = q then 1 else 0) else -2) else -1) else -1
theorem e_part {s u : Int32} {Q : Int32 → Prop} (hs : s = 0 ∨ s = 1) (h : Q (if u = 0 then 1 else s)) : wp_X6_partOfFraction s 1 u Q := by
  unfold wp_X6_partOfFraction
  intro x3 e3
  have e : x3 = s := by
    rcases hs with e | e <;> subst e <;> subst e3 <;> rfl
  subst e
  clear e3
  unfold B_X6_partOfFraction_11
  refine LOOP_c 1 (fun i z => (i = 0 ∧ z = (x3, (1 : Int32), u, x3, (1 : Int32), (0 : Int32))) ∨ (i = 1 ∧ z = (x3, (1 : Int32), u, (1 : Int32), (0 : Int32), (1 : Int32)))) _ (Or.inl ⟨rfl, rfl⟩) ?_
  rintro i z G hi (⟨e, e2⟩ | ⟨e, e2⟩) hG
  · subst e; subst e2
    change LB_X6_partOfFraction_11 G x3 1 u x3 1 0 Q
    unfold LB_X6_partOfFraction_11
    refine ⟨fun c => absurd c (by decide), fun _ => ⟨fun c => absurd c (by decide), fun _ => ⟨by decide, ?_⟩⟩⟩
    intro _ e4 _ e5
    subst e4; subst e5
    refine hG _ (by omega) (Or.inr ⟨rfl, ?_⟩)
    rcases hs with e | e <;> subst e <;> rfl
  · subst e; subst e2
    change LB_X6_partOfFraction_11 G x3 1 u 1 0 1 Q
    have g : B_X6_partOfFraction_42 x3 1 u 1 Q := by
      unfold B_X6_partOfFraction_42 B_X6_partOfFraction_52
      refine ⟨fun _ => ⟨fun c => ⟨by decide, ?_⟩, fun c => ⟨by decide, ?_⟩⟩, fun c => absurd (by decide) c⟩
      · rw [if_pos c] at h
        exact h
      · rw [if_neg c] at h
        rcases hs with e | e <;> subst e <;> exact h
    unfold LB_X6_partOfFraction_11
    exact ⟨fun _ => g, fun _ => ⟨fun _ => g, fun c => absurd rfl c⟩⟩
theorem e_common {s : Int32} {Q : Int32 → Prop} (hs : s = 0 ∨ s = 1) (h : Q 1) : wp_X7_common s 1 Q := by
  unfold wp_X7_common
  refine ⟨fun _ => ?_, fun c => absurd ?_ c⟩
  · unfold B_X7_common_10 B_X7_common_13
    refine LOOP_c 1 (fun i z => (i = 0 ∧ z = (s, (1 : Int32))) ∨ (i = 1 ∧ z = ((1 : Int32), (0 : Int32)))) _ (Or.inl ⟨rfl, rfl⟩) ?_
    rintro i z G hi (⟨e, e2⟩ | ⟨e, e2⟩) hG
    · subst e; subst e2
      change LB_X7_common_13 G s 1 Q
      unfold LB_X7_common_13
      refine ⟨fun c => absurd c (by decide), fun _ => ⟨by decide, ?_⟩⟩
      intro _ e4
      subst e4
      refine hG _ (by omega) (Or.inr ⟨rfl, ?_⟩)
      rcases hs with e | e <;> subst e <;> rfl
    · subst e; subst e2
      change LB_X7_common_13 G 1 0 Q
      unfold LB_X7_common_13
      exact ⟨fun _ => h, fun c => absurd rfl c⟩
  · rcases hs with e | e <;> subst e <;> decide
theorem e_openBut {p : Int32} {w : CS} {Q : Int32 → Prop} (hw : Wz w) (h : Q 0) : wp_X5_openBut p w Q := by
  unfold wp_X5_openBut wp_X5_cellsOfHoles B_X5_cellsOfHoles_4
  refine LOOP_c 5 (fun i z => z.2.1 = 0 ∧ z.2.2.toInt = (i : Int)) _ ⟨rfl, rfl⟩ ?_
  rintro i ⟨x1, x2, x3⟩ G hi ⟨k1, k2⟩ hG
  change LB_X5_cellsOfHoles_4 G w x1 x2 x3 _
  dsimp only at k1 k2
  subst k1
  unfold LB_X5_cellsOfHoles_4
  refine ⟨fun _ => ?_, fun c => ?_⟩
  · rw [hw.2]
    exact h
  have c1 : i < 5 := by rw [ti_ge (m := 5) k2 rfl] at c; omega
  refine ⟨fun _ => ?_, fun _ => ⟨ti_in k2 c1, ?_⟩⟩
  · unfold B_X5_cellsOfHoles_26
    intro _ e
    subst e
    exact hG _ c1 ⟨rfl, ti_add k2 (by omega)⟩
  · intro _ e0
    rw [ti_cl k2, hw.1 i c1] at e0
    subst e0
    unfold B_X5_cellsOfHoles_26
    intro _ e
    subst e
    exact hG _ c1 ⟨rfl, ti_add k2 (by omega)⟩
theorem e_weight {p r : Int32} {Q : Int32 → Prop} (h : Q 1) : wp_X6_weightOfShut p 0 r Q := by
  unfold wp_X6_weightOfShut B_X6_weightOfShut_5
  refine LOOP_c 5 (fun i z => z.2.1 = 0 ∧ z.2.2.2.1 = 1 ∧ z.2.2.2.2.toInt = (i : Int)) _ ⟨rfl, rfl, rfl⟩ ?_
  rintro i ⟨x0, x1, x2, x3, x4⟩ G hi ⟨k1, k2, k3⟩ hG
  change LB_X6_weightOfShut_5 G x0 x1 x2 x3 x4 Q
  dsimp only at k1 k2 k3
  subst k1; subst k2
  unfold LB_X6_weightOfShut_5
  refine ⟨fun _ => h, fun c => ?_⟩
  have c1 : i < 5 := by rw [ti_ge (m := 5) k3 rfl] at c; omega
  intro x5 _
  refine ⟨fun _ => ?_, fun c => absurd Int32.zero_and c⟩
  unfold B_X6_weightOfShut_42
  intro _ e
  subst e
  exact hG _ c1 ⟨rfl, rfl, ti_add k3 (by omega)⟩
theorem x_passes {p q r u : Int32} {Z Y : Nat → Nat → Nat} {Q : Int32 → Prop} (h : Q (passF p q r u)) : wp_X6_passes p q r u Z Y S0 (a0 Y) Q := by
  unfold wp_X6_passes
  unfold passF at h
  have e0 : (0 : Int32).toInt = 0 := rfl
  have e10 : (10 : Int32).toInt = 10 := rfl
  refine e_hasCell (fun a => ⟨fun c => absurd c (by decide), fun _ => ?_⟩) (fun a => ⟨fun _ => ?_, fun c => absurd rfl c⟩)
  · rw [if_pos a] at h
    refine e_hasCell (fun a2 => ⟨fun _ => ?_, fun c => absurd c (by decide)⟩) (fun a2 => ⟨fun c => absurd rfl c, fun _ => ?_⟩)
    · rw [if_pos a2] at h
      refine ⟨fun c => ?_, fun c => ⟨fun c2 => ?_, fun c2 => ?_⟩⟩
      · rw [Int32.lt_iff_toInt_lt] at c
        rw [if_neg (by omega)] at h
        exact h
      · rw [Int32.lt_iff_toInt_lt] at c
        rw [Int32.le_iff_toInt_le] at c2
        rw [if_pos (by omega)] at h
        refine e_holesLeft S0w ?_
        have g : B_X6_passes_79 Z Y S0 (a0 Y) p q r u 0 0 1 0 Q := by
          unfold B_X6_passes_79
          refine LOOP_c 32 (fun i z => z.1 = p ∧ z.2.1 = q ∧ z.2.2.2.1 = u ∧ z.2.2.2.2.1 = 0 ∧ (i = 0 → z.2.2.2.2.2.1 = 0) ∧ (0 < i → z.2.2.2.2.2.1 = if p = q then 1 else 0) ∧ z.2.2.2.2.2.2.1 = 1 ∧ z.2.2.2.2.2.2.2.toInt = (i : Int)) _ ⟨rfl, rfl, rfl, rfl, fun _ => rfl, fun c => by omega, rfl, rfl⟩ ?_
          rintro i ⟨x1, x2, x3, x4, x5, x6, x7, x8⟩ G hi ⟨k1, k2, k3, k4, k5, k6, k7, k8⟩ hG
          change LB_X6_passes_79 G Z Y S0 (a0 Y) x1 x2 x3 x4 x5 x6 x7 x8 Q
          dsimp only at k1 k2 k3 k4 k5 k6 k7 k8
          subst k1; subst k2; subst k3; subst k4; subst k7
          unfold LB_X6_passes_79
          refine ⟨fun c3 => ?_, fun c3 => ?_⟩
          · have c1 : 32 ≤ i := by rw [ti_ge (m := 32) k8 rfl] at c3; omega
            have e6 := k6 (by omega)
            refine e_part ?_ ?_
            · rw [e6]
              by_cases e : x1 = x2
              · rw [if_pos e]; exact Or.inr rfl
              · rw [if_neg e]; exact Or.inl rfl
            · rw [e6]
              exact h
          have c1 : i < 32 := by rw [ti_ge (m := 32) k8 rfl] at c3; omega
          have hx : (x8 &&& ((0 : Int32) ^^^ (-1 : Int32))) = x8 := by
            rw [show ((0 : Int32) ^^^ (-1 : Int32)) = -1 from rfl]
            exact Int32.and_neg_one
          rw [hx]
          refine ⟨fun c4 => ?_, fun c4 => ?_⟩
          · unfold B_X6_passes_128
            intro _ e
            subst e
            have hi0 : 0 < i := by
              rcases Nat.eq_zero_or_pos i with e | e
              · subst e
                exact absurd (ti_of k8) c4
              · exact e
            exact hG _ c1 ⟨rfl, rfl, rfl, rfl, fun c => absurd c (by omega), fun _ => k6 hi0, rfl, ti_add k8 (by omega)⟩
          · have hi0 : i = 0 := by
              subst c4
              have : (0 : Int32).toInt = 0 := rfl
              omega
            subst hi0
            have e6 := k5 rfl
            subst e6
            refine e_openBut ⟨S0w, S0e⟩ ?_
            refine e_steps0 a a2 ⟨fun c5 => ?_, fun c5 => ?_⟩
            · have ne : ¬ x1 = x2 := by
                intro e
                rw [if_pos e] at c5
                exact absurd c5 (by decide)
              unfold B_X6_passes_128
              intro _ e
              subst e
              exact hG _ c1 ⟨rfl, rfl, rfl, rfl, fun c => absurd c (by omega), fun _ => (if_neg ne).symm, rfl, ti_add k8 (by omega)⟩
            · have ne : x1 = x2 := by
                refine Classical.byContradiction (fun e => c5 ?_)
                rw [if_neg e]
              refine e_weight ?_
              intro _ e6
              unfold B_X6_passes_128
              intro _ e
              subst e; subst e6
              exact hG _ c1 ⟨rfl, rfl, rfl, rfl, fun c => absurd c (by omega), fun _ => (if_pos ne).symm, rfl, ti_add k8 (by omega)⟩
        unfold B_X6_passes_47
        refine LOOP_c 5 (fun i z => z.1 = p ∧ z.2.1 = q ∧ z.2.2.1 = r ∧ z.2.2.2.1 = u ∧ z.2.2.2.2.1 = 0 ∧ z.2.2.2.2.2.1 = 0 ∧ z.2.2.2.2.2.2.1 = 1 ∧ z.2.2.2.2.2.2.2.toInt = (i : Int)) _ ⟨rfl, rfl, rfl, rfl, rfl, rfl, rfl, rfl⟩ ?_
        rintro i ⟨x1, x2, x3, x4, x5, x6, x7, x8⟩ G hi ⟨k1, k2, k3, k4, k5, k6, k7, k8⟩ hG
        change LB_X6_passes_47 G Z Y S0 (a0 Y) x1 x2 x3 x4 x5 x6 x7 x8 Q
        dsimp only at k1 k2 k3 k4 k5 k6 k7 k8
        subst k1; subst k2; subst k3; subst k4; subst k5; subst k6; subst k7
        unfold LB_X6_passes_47
        refine ⟨fun _ => g, fun c3 => ?_⟩
        have c1 : i < 5 := by rw [ti_ge (m := 5) k8 rfl] at c3; omega
        refine ⟨fun _ => ?_, fun c => absurd Int32.zero_and c⟩
        unfold B_X6_passes_70
        intro _ e
        subst e
        exact hG _ c1 ⟨rfl, rfl, rfl, rfl, rfl, rfl, rfl, ti_add k8 (by omega)⟩
      · rw [Int32.le_iff_toInt_le] at c2
        rw [if_neg (by omega)] at h
        exact h
    · rw [if_neg a2] at h
      exact h
  · rw [if_neg a] at h
    exact h
theorem r_passes {p q r u : Int32} {Q : Int32 → Prop} (h : Q (passF p q r u)) : wp_X7_passes p q r u m0 Q := by
  unfold wp_X7_passes
  unfold passF at h
  refine e_isCell (fun a => ⟨fun c => absurd c (by decide), fun _ => ?_⟩) (fun a => ⟨fun _ => ?_, fun c => absurd rfl c⟩)
  · rw [if_pos a] at h
    refine e_isCell (fun a2 => ⟨fun _ => ?_, fun c => absurd c (by decide)⟩) (fun a2 => ⟨fun c => absurd rfl c, fun _ => ?_⟩)
    · rw [if_pos a2] at h
      refine e_in3 0 10 rfl rfl (fun b b2 => ⟨fun _ => ?_, fun c => absurd c (by decide)⟩) (fun b => ⟨fun c => absurd rfl c, fun _ => ?_⟩)
      · rw [if_pos (by omega)] at h
        unfold B_X7_passes_40
        refine LOOP_c 1 (fun i z => (i = 0 ∧ z = (p, q, r, u, (0 : Int32), (0 : Int32), (0 : Int32))) ∨ (i = 1 ∧ z = (p, q, r, u, (if p = q then (1 : Int32) else 0), (1 : Int32), (1 : Int32)))) _ (Or.inl ⟨rfl, rfl⟩) ?_
        rintro i z G hi (⟨e, e2⟩ | ⟨e, e2⟩) hG
        · subst e; subst e2
          change LB_X7_passes_40 G m0 p q r u 0 0 0 Q
          unfold LB_X7_passes_40
          refine ⟨fun c => absurd c (by decide), fun _ => ?_⟩
          refine e_ofz (L := 0) rfl (by omega) m0n2 (by decide) ?_
          unfold B_X7_passes_66
          refine LOOP_c 0 (fun _ z => z = (p, q, r, u, (0 : Int32), (0 : Int32), (0 : Int32), (1 : Int32), (0 : Int32), (0 : Int32))) _ rfl ?_
          intro i3 z3 G3 hi3 e3 hG3
          change z3 = _ at e3
          subst e3
          change LB_X7_passes_66 G3 G m0 p q r u 0 0 0 1 0 0 Q
          unfold LB_X7_passes_66
          refine ⟨fun _ => ?_, fun c => absurd (show (0 : Int32) ≤ 0 by decide) c⟩
          intro _ e6
          subst e6
          refine ⟨fun c => ?_, fun c => e_stepsBy0 a2 ⟨fun _ => ?_, fun c => absurd rfl c⟩⟩
          · unfold B_X7_passes_156 B_X7_passes_162
            intro _ e7 _ e8
            subst e7; subst e8
            refine hG _ (by omega) (Or.inr ⟨rfl, ?_⟩)
            rw [if_pos c]
            rfl
          · unfold B_X7_passes_162
            intro _ e7 _ e8
            subst e7; subst e8
            refine hG _ (by omega) (Or.inr ⟨rfl, ?_⟩)
            rw [if_neg c]
            rfl
        · subst e; subst e2
          change LB_X7_passes_40 G m0 p q r u (if p = q then 1 else 0) 1 1 Q
          have hs : (if p = q then (1 : Int32) else 0) = 0 ∨ (if p = q then (1 : Int32) else 0) = 1 := by
            by_cases e : p = q
            · rw [if_pos e]; exact Or.inr rfl
            · rw [if_neg e]; exact Or.inl rfl
          unfold LB_X7_passes_40
          refine ⟨fun _ => ?_, fun c => absurd (show ((1 : Int32) <<< ((0 : Int32) &&& 31)) ≤ 1 by decide) c⟩
          refine e_common hs ⟨fun c => ⟨by decide, ?_⟩, fun c => ⟨by decide, ?_⟩⟩
          · rw [if_pos c] at h
            exact h
          · rw [if_neg c] at h
            rcases hs with e | e <;> rw [e] at h ⊢ <;> exact h
      · rw [if_neg (by omega)] at h
        exact h
    · rw [if_neg a2] at h
      exact h
  · rw [if_neg a] at h
    exact h
