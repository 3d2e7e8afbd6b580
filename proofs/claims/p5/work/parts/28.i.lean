def Wz (w : CS) : Prop := (∀ i, i < 5 → w.2.1 0 i = 0) ∧ w.1 4 = 0
def Dz (d : CS) : Prop := d.1 0 = 0 ∧ d.1 1 = 0
theorem nat_of {p : Int32} (h : 0 ≤ p.toInt) : ∃ n : Nat, p.toInt = n := ⟨p.toInt.toNat, by omega⟩
def aheadF (p q : Int32) : Int32 := if (0 ≤ p.toInt ∧ p.toInt ≤ 20) ∧ 0 ≤ q.toInt ∧ q.toInt ≤ 1 then (if q = 0 then 0 else 20) else -2
theorem x_ahead {p q : Int32} {Z Y : Nat → Nat → Nat} {Q : Int32 → (Nat → CS) → AS → Prop} (h : ∀ S a, Q (aheadF p q) S a) : wp_X6_ahead p q Z Y S0 (a0 Y) Q := by
  unfold wp_X6_ahead
  unfold aheadF at h
  have e0 : (0 : Int32).toInt = 0 := rfl
  have e1 : (1 : Int32).toInt = 1 := rfl
  have e20 : (20 : Int32).toInt = 20 := rfl
  simp only [Int32.lt_iff_toInt_lt, Int32.le_iff_toInt_le] 
  refine ⟨fun c => ?_, fun c => ⟨fun c2 => ?_, fun c2 => ⟨fun c3 => ?_, fun c3 => ⟨fun c4 => ?_, fun c4 => ?_⟩⟩⟩⟩
  · rw [if_neg (by omega)] at h
    exact h _ _
  · rw [if_neg (by omega)] at h
    exact h _ _
  · rw [if_neg (by omega)] at h
    exact h _ _
  · rw [if_pos (by omega)] at h
    obtain ⟨n, hn⟩ := nat_of (p := p) (by omega)
    refine e_copy (fun v hv hv2 => ?_)
    intro S e
    have hW : Wz (S 5) := by
      subst e
      exact ⟨fun i hi => (hv i hi).trans (S0w i hi), hv2.trans S0e⟩
    have hD : Dz (S 1) := by
      subst e
      exact ⟨rfl, rfl⟩
    clear e
    unfold B_X6_ahead_35
    refine LOOP_c n (fun i z => z.1 = p ∧ z.2.1 = q ∧ z.2.2.1.toInt = (i : Int) ∧ Wz (z.2.2.2.1 5) ∧ Dz (z.2.2.2.1 1)) _ ⟨rfl, rfl, rfl, hW, hD⟩ ?_
    rintro i ⟨x1, x2, x3, S2, a2⟩ G hi ⟨k1, k2, k3, k4, k5⟩ hG
    change LB_X6_ahead_35 G Z Y x1 x2 x3 S2 a2 Q
    dsimp only at k1 k2 k3 k4 k5
    subst k1; subst k2
    unfold LB_X6_ahead_35
    refine ⟨fun _ => ⟨fun c5 => ?_, fun c5 => ?_⟩, fun c5 => ?_⟩
    · rw [if_neg c5] at h
      exact e_pasteCells k4.1 k4.2 (e_bits20 (h _ _))
    · rw [if_pos c5] at h
      exact e_holesLeft k4.1 (h _ _)
    · rw [Int32.le_iff_toInt_le] at c5
      refine e_passDay k5.1 k5.2 k4.1 ?_
      intro _ e _ e2
      subst e; subst e2
      exact hG _ (by omega) ⟨rfl, rfl, ti_add k3 (by omega), k4, k5⟩
  · rw [if_neg (by omega)] at h
    exact h _ _
theorem r_ahead {p q : Int32} {Q : Int32 → CS → Prop} (h : ∀ m, Q (aheadF p q) m) : wp_X7_ahead p q m0 Q := by
  unfold wp_X7_ahead
  unfold aheadF at h
  refine e_in3 0 20 rfl rfl (fun a b => ⟨fun c => absurd c (by decide), fun _ => ?_⟩) (fun a => ⟨fun _ => ?_, fun c => absurd rfl c⟩)
  · refine e_in3 0 1 rfl rfl (fun a2 b2 => ⟨fun _ => ?_, fun c => absurd c (by decide)⟩) (fun a2 => ⟨fun c => absurd rfl c, fun _ => ?_⟩)
    · rw [if_pos (by omega)] at h
      obtain ⟨n, hn⟩ := nat_of a
      refine e_layTrial m0n (fun m e1 e2 e3 => ?_)
      have hM : Mt m := ⟨by rw [e1]; rfl, by rw [e1]; rfl, e3⟩
      unfold B_X7_ahead_31
      refine LOOP_c n (fun i z => z.1 = p ∧ z.2.1 = q ∧ z.2.2.1.toInt = (i : Int) ∧ Mt z.2.2.2) _ ⟨rfl, rfl, rfl, hM⟩ ?_
      rintro i ⟨x1, x2, x3, s⟩ G hi ⟨k1, k2, k3, k4⟩ hG
      change LB_X7_ahead_31 G x1 x2 x3 s Q
      dsimp only at k1 k2 k3 k4
      subst k1; subst k2
      unfold LB_X7_ahead_31
      refine ⟨fun _ => ⟨fun c5 => ?_, fun c5 => ?_⟩, fun c5 => ?_⟩
      · rw [if_neg c5] at h
        exact e_of7 (L := 1) rfl (by omega) k4.2.2 (e_ones20 (h _))
      · rw [if_pos c5] at h
        exact e_alive k4.2.1 (h _)
      · rw [Int32.le_iff_toInt_le] at c5
        refine e_passOn (L := 1) rfl (by omega) k4.2.1 (fun m' _ g _ => ?_)
        intro _ e2
        subst e2
        exact hG _ (by omega) ⟨rfl, rfl, ti_add k3 (by omega), g k4⟩
    · rw [if_neg (by omega)] at h
      exact h _
  · rw [if_neg (by omega)] at h
    exact h _
def tasteF (p q r : Int32) : Int32 := if isC p then (if (0 ≤ q.toInt ∧ q.toInt ≤ 9) ∧ 0 ≤ r.toInt ∧ r.toInt ≤ 1 then 1 else -2) else -1
theorem x_taste {p q r : Int32} {Z Y : Nat → Nat → Nat} {Q : Int32 → (Nat → CS) → AS → Prop} (h : ∀ S a, Q (tasteF p q r) S a) : wp_X6_taste p q r Z Y S0 (a0 Y) Q := by
  unfold wp_X6_taste
  unfold tasteF at h
  have e0 : (0 : Int32).toInt = 0 := rfl
  have e1 : (1 : Int32).toInt = 1 := rfl
  have e9 : (9 : Int32).toInt = 9 := rfl
  refine e_hasCell (fun a => ⟨fun _ => ?_, fun c => absurd c (by decide)⟩) (fun a => ⟨fun c => absurd rfl c, fun _ => ?_⟩)
  · rw [if_pos a] at h
    refine ⟨fun c => ?_, fun c => ⟨fun c2 => ?_, fun c2 => ⟨fun c3 => ?_, fun c3 => ⟨fun c4 => ?_, fun c4 => ?_⟩⟩⟩⟩
    · rw [Int32.lt_iff_toInt_lt] at c
      rw [if_neg (by omega)] at h
      exact h _ _
    · rw [Int32.lt_iff_toInt_lt] at c2
      rw [if_neg (by omega)] at h
      exact h _ _
    · rw [Int32.lt_iff_toInt_lt] at c3
      rw [if_neg (by omega)] at h
      exact h _ _
    · rw [Int32.lt_iff_toInt_lt] at c c2 c3
      rw [Int32.le_iff_toInt_le] at c4
      rw [if_pos (by omega)] at h
      have g : ∀ t, B_X6_taste_62 Z Y t q p S0 (a0 Y) Q := by
        intro t
        unfold B_X6_taste_62 wp_X4_addOne
        refine ⟨fun c => absurd c (show ¬ (0 : Int32) < 0 by decide), fun _ => ⟨fun c => absurd c (show ¬ (6 : Int32) ≤ 0 by decide), fun _ => ?_⟩⟩
        refine ⟨z_in (by decide), ?_⟩
        intro _ e
        subst e
        refine ⟨z_in (by decide), ?_⟩
        intro _ e
        subst e
        refine ⟨z_in (by decide), ?_⟩
        intro _ e _ e2 _ e3
        subst e; subst e2; subst e3
        exact h _ _
      exact ⟨fun _ => ⟨fun _ => g _, fun _ => g _⟩, fun c => absurd (show (0 : Int32) < 6 by decide) c⟩
    · rw [Int32.le_iff_toInt_le] at c4
      rw [if_neg (by omega)] at h
      exact h _ _
  · rw [if_neg a] at h
    exact h _ _
theorem r_taste {p q r : Int32} {Q : Int32 → CS → Prop} (h : ∀ m, Q (tasteF p q r) m) : wp_X7_taste p q r m0 Q := by
  unfold wp_X7_taste
  unfold tasteF at h
  refine e_isCell (fun a => ⟨fun _ => ?_, fun c => absurd c (by decide)⟩) (fun a => ⟨fun c => absurd rfl c, fun _ => ?_⟩)
  · rw [if_pos a] at h
    refine e_in3 0 9 rfl rfl (fun a b => ⟨fun c => absurd c (by decide), fun _ => ?_⟩) (fun a => ⟨fun _ => ?_, fun c => absurd rfl c⟩)
    · refine e_in3 0 1 rfl rfl (fun a2 b2 => ⟨fun _ => ?_, fun c => absurd c (by decide)⟩) (fun a2 => ⟨fun c => absurd rfl c, fun _ => ?_⟩)
      · rw [if_pos (by omega)] at h
        refine ⟨fun _ => ?_, fun c => absurd c (show ¬ (0 : Int32) = 6 by decide)⟩
        refine ⟨z_in (by decide), ?_⟩
        intro _ e
        subst e
        refine ⟨z_in (by decide), ?_⟩
        intro _ e
        subst e
        refine ⟨z_in (by decide), ?_⟩
        intro _ e _ e2
        subst e; subst e2
        exact h _
      · rw [if_neg (by omega)] at h
        exact h _
    · rw [if_neg (by omega)] at h
      exact h _
  · rw [if_neg a] at h
    exact h _
def beganF (p : Int32) : Int32 := if 0 ≤ p.toInt ∧ p.toInt ≤ 3 then 1048575 else -2
theorem e_agrees {p q : Int32} {t : CS} {Q : Int32 → Prop} (ht : t.1 3 = 0) (h : Q 1) : wp_X4_agrees p q t Q := by
  unfold wp_X4_agrees B_X4_agrees_2
  refine LOOP_c 0 (fun _ z => z = (p, q, (0 : Int32))) _ rfl ?_
  intro i z G hi e hG
  change z = _ at e
  subst e
  change LB_X4_agrees_2 G t p q 0 Q
  unfold LB_X4_agrees_2
  exact ⟨fun _ => h, fun _ => ⟨fun _ => h, fun c => absurd (show t.1 3 ≤ 0 by rw [ht]; decide) c⟩⟩
theorem e_mayHaveBegun {p : Int32} {Z Y : Nat → Nat → Nat} {S : Nat → CS} {a : AS} {Q : Int32 → (Nat → CS) → AS → Prop} (hS : (S 6).1 3 = 0) (h : ∀ S2 : Nat → CS, (S2 6).1 3 = 0 → Q 1 S2 a) : wp_X6_mayHaveBegun p Z Y S a Q := by
  unfold wp_X6_mayHaveBegun
  refine sf_X5_beginWith (fun v => ?_)
  intro S2 e
  refine sf_X5_putLoneHole (fun v2 => ?_)
  intro S3 e2
  have h3 : (S3 6).1 3 = 0 := by
    subst e2; subst e
    exact hS
  clear e e2
  unfold B_X6_mayHaveBegun_21
  refine LOOP_c 10 (fun i z => z.1.toInt = (i : Int) ∧ (z.2.1 6).1 3 = 0 ∧ z.2.2 = a) _ ⟨rfl, h3, rfl⟩ ?_
  rintro i ⟨x2, S4, a4⟩ G hi ⟨k1, k2, k3⟩ hG
  change LB_X6_mayHaveBegun_21 G Z Y x2 S4 a4 Q
  dsimp only at k1 k2 k3
  subst k3
  unfold LB_X6_mayHaveBegun_21
  refine ⟨fun _ => h _ k2, fun c => ?_⟩
  have c1 : i < 10 := by rw [ti_gt (m := 9) k1 rfl] at c; omega
  refine sf_X5_holeCells (fun r => ?_)
  refine e_agrees k2 ⟨fun _ => ?_, fun c => absurd c (by decide)⟩
  refine sf_X5_passDay (fun r2 v3 => ?_)
  intro _ e _ e2
  subst e; subst e2
  exact hG _ c1 ⟨ti_add k1 (by omega), k2, rfl⟩
theorem x_began {p : Int32} {Z Y : Nat → Nat → Nat} {Q : Int32 → (Nat → CS) → AS → Prop} (h : ∀ S a, Q (beganF p) S a) : wp_X6_began p Z Y S0 (a0 Y) Q := by
  unfold wp_X6_began
  unfold beganF at h
  have e0 : (0 : Int32).toInt = 0 := rfl
  have e4 : (4 : Int32).toInt = 4 := rfl
  refine ⟨fun c => ?_, fun c => ⟨fun c2 => ?_, fun c2 => ?_⟩⟩
  · rw [Int32.lt_iff_toInt_lt] at c
    rw [if_neg (by omega)] at h
    exact h _ _
  · rw [Int32.lt_iff_toInt_lt] at c c2
    rw [if_pos (by omega)] at h
    refine sf_X1_tellLoneHole (fun v => ?_)
    intro S e
    have hS : (S 6).1 3 = 0 := by
      subst e
      rfl
    clear e
    unfold B_X6_began_24
    refine LOOP_c 20 (fun i z => z.1 = Int32.ofNat (2 ^ i - 1) ∧ z.2.1.toInt = (i : Int) ∧ (z.2.2.1 6).1 3 = 0) _ ⟨rfl, rfl, hS⟩ ?_
    rintro i ⟨x2, x3, S2, a2⟩ G hi ⟨k1, k2, k3⟩ hG
    change LB_X6_began_24 G Z Y x2 x3 S2 a2 Q
    dsimp only at k1 k2 k3
    unfold LB_X6_began_24
    refine ⟨fun c => ?_, fun c => ?_⟩
    · have c1 : i = 20 := by rw [ti_ge (m := 20) k2 rfl] at c; omega
      subst c1
      subst k1
      exact h _ _
    have c1 : i < 20 := by rw [ti_ge (m := 20) k2 rfl] at c; omega
    refine e_mayHaveBegun k3 (fun S3 hS3 => ⟨fun c => absurd c (by decide), fun _ => ?_⟩)
    intro _ e
    unfold B_X6_began_44
    intro _ e2
    subst e; subst e2
    refine hG _ c1 ⟨?_, ti_add k2 (by omega), hS3⟩
    show x2 ||| ((1 : Int32) <<< (x3 &&& 31)) = _
    rw [k1, ti_of k2]
    exact of_step i c1
  · rw [Int32.lt_iff_toInt_lt] at c2
    rw [if_neg (by omega)] at h
    exact h _ _
theorem e_mayBegin {how p : Int32} {m : CS} {Q : Int32 → Prop} (hm : m.1 21 = 0) (h : Q 1) : wp_X7_mayBegin how p m Q := by
  unfold wp_X7_mayBegin
  intro x3 _
  unfold B_X7_mayBegin_10
  refine LOOP_c 10 (fun i z => z.2.2.1 = 1 ∧ z.2.2.2.toInt = (i : Int)) _ ⟨rfl, rfl⟩ ?_
  rintro i ⟨x1, x3, x4, x5⟩ G hi ⟨k1, k2⟩ hG
  change LB_X7_mayBegin_10 G m x1 x3 x4 x5 Q
  dsimp only at k1 k2
  subst k1
  unfold LB_X7_mayBegin_10
  refine ⟨fun _ => ⟨rfl, h⟩, fun c => ?_⟩
  have c1 : i < 10 := by rw [ti_ge (m := 10) k2 rfl] at c; omega
  unfold B_X7_mayBegin_20
  refine LOOP_c 0 (fun _ z => z = (x1, x3, (1 : Int32), x5, (0 : Int32))) _ rfl ?_
  intro i0 z G0 hi0 e0 hG0
  change z = _ at e0
  subst e0
  change LB_X7_mayBegin_20 G0 G m x1 x3 1 x5 0 Q
  unfold LB_X7_mayBegin_20
  refine ⟨fun _ => ?_, fun c => absurd (show m.1 21 ≤ 0 by rw [hm]; decide) c⟩
  unfold B_X7_mayBegin_92
  refine LOOP_c 2 (fun j z => z.2.2.1 = 1 ∧ z.2.2.2.1 = x5 ∧ z.2.2.2.2.toInt = (j : Int)) _ ⟨rfl, rfl, rfl⟩ ?_
  rintro j ⟨y1, y3, y4, y5, y6⟩ G2 hj ⟨l1, l2, l3⟩ hG2
  change LB_X7_mayBegin_92 G2 G m y1 y3 y4 y5 y6 Q
  dsimp only at l1 l2 l3
  subst l1; subst l2
  have g : ∀ t : Int32, t.toInt ≤ 2 → B_X7_mayBegin_104 G G2 m y1 y3 1 y5 y6 t y6 Q := by
    intro t ht
    unfold B_X7_mayBegin_104
    refine ⟨fun _ => ?_, fun c2 => ?_⟩
    · intro _ e
      subst e
      exact hG _ c1 ⟨rfl, ti_add k2 (by omega)⟩
    · rw [Int32.le_iff_toInt_le] at c2
      refine sf_X7_takes (fun r => ?_)
      unfold B_X7_mayBegin_137
      refine ⟨fun _ => ?_, fun _ => ?_⟩ <;> intro _ e _ e2 <;> subst e <;> subst e2 <;> exact hG2 _ (by omega) ⟨rfl, rfl, ti_add l3 (by omega)⟩
  unfold LB_X7_mayBegin_92
  exact ⟨fun _ => g _ (by decide), fun _ => g _ (by decide)⟩
theorem r_began {p : Int32} {Q : Int32 → Prop} (h : Q (beganF p)) : wp_X7_began p m0 Q := by
  unfold wp_X7_began
  unfold beganF at h
  refine e_in3 0 3 rfl rfl (fun a b => ⟨fun _ => ?_, fun c => absurd c (by decide)⟩) (fun a => ⟨fun c => absurd rfl c, fun _ => ?_⟩)
  · rw [if_pos (by omega)] at h
    unfold B_X7_began_19
    refine LOOP_c 20 (fun i z => z.2.1 = Int32.ofNat (2 ^ i - 1) ∧ z.2.2.toInt = (i : Int)) _ ⟨rfl, rfl⟩ ?_
    rintro i ⟨x1, x2, x3⟩ G hi ⟨k1, k2⟩ hG
    change LB_X7_began_19 G m0 x1 x2 x3 Q
    dsimp only at k1 k2
    unfold LB_X7_began_19
    refine ⟨fun c => ?_, fun c => ?_⟩
    · have c1 : i = 20 := by rw [ti_ge (m := 20) k2 rfl] at c; omega
      subst c1
      subst k1
      exact h
    have c1 : i < 20 := by rw [ti_ge (m := 20) k2 rfl] at c; omega
    refine e_mayBegin rfl ⟨fun c => absurd c (by decide), fun _ => ?_⟩
    unfold B_X7_began_42
    intro _ e _ e2
    subst e; subst e2
    refine hG _ c1 ⟨?_, ti_add k2 (by omega)⟩
    show x2 ||| ((1 : Int32) <<< (x3 &&& 31)) = _
    rw [k1, ti_of k2]
    exact of_step i c1
  · rw [if_neg (by omega)] at h
    exact h
