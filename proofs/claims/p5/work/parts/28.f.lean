theorem LOOP_c {σ : Type} {body : (σ → Prop) → σ → Prop} (n : Nat) (P : Nat → σ → Prop) (z : σ) (h0 : P 0 z) (hs : ∀ (i : Nat) (z : σ) (G : σ → Prop), i ≤ n → P i z → (∀ z', i < n → P (i + 1) z' → G z') → body G z) : LOOP body z :=
  ⟨fun k z => ∃ i, i ≤ n ∧ k = n - i ∧ P i z, ⟨n, 0, by omega, by omega, h0⟩, fun k z h => by
    obtain ⟨i, h1, h2, h3⟩ := h
    exact hs i z _ h1 h3 (fun z' h4 h5 => ⟨n - (i + 1), by omega, i + 1, by omega, rfl, h5⟩)⟩
theorem ti_of {x : Int32} {i : Nat} (h : x.toInt = i) : x = Int32.ofInt i := by
  rw [← h]; exact (Int32.ofInt_toInt x).symm
theorem ti_add2 {x y : Int32} {i j : Nat} (h : x.toInt = i) (h2 : y.toInt = j) (hi : i + j < 2147483648) : (x + y).toInt = ((i + j : Nat) : Int) := by
  rw [Int32.toInt_add, Int.bmod_eq_of_le (by omega) (by omega)]; omega
theorem ti_add {x : Int32} {i : Nat} (h : x.toInt = i) (hi : i < 2147483647) : (x + 1).toInt = ((i + 1 : Nat) : Int) := ti_add2 h (show (1 : Int32).toInt = ((1 : Nat) : Int) from rfl) (by omega)
theorem ti_in {x : Int32} {i n : Nat} (h : x.toInt = i) (hi : i < n) : vp_in x n := by rw [vp_in_iff]; omega
theorem ti_cl {x : Int32} {i : Nat} (h : x.toInt = i) : x.toNatClampNeg = i := by
  show x.toInt.toNat = i
  omega
theorem ti_ge {x M : Int32} {i m : Nat} (h : x.toInt = i) (hM : M.toInt = m) : M ≤ x ↔ m ≤ i := by rw [Int32.le_iff_toInt_le]; omega
theorem ti_gt {x M : Int32} {i m : Nat} (h : x.toInt = i) (hM : M.toInt = m) : M < x ↔ m < i := by rw [Int32.lt_iff_toInt_lt]; omega
theorem sA_get {s : CS} {r j k : Nat} {v : Int32} : (sA s r j v).2.1 r k = if k = j then v else s.2.1 r k := by simp [sA, sF, va_up, upd]
theorem sA_ne {s : CS} {r j q : Nat} {v : Int32} (h : q ≠ r) : (sA s r j v).2.1 q = s.2.1 q := by simp [sA, sF, va_up, h]
theorem e_in {p a b : Int64} {Q : Int32 → Prop} (h1 : a.toInt ≤ p.toInt → p.toInt ≤ b.toInt → Q 1) (h0 : ¬ (a.toInt ≤ p.toInt ∧ p.toInt ≤ b.toInt) → Q 0) : wp_X7_in p a b Q := by
  unfold wp_X7_in
  rw [lg_cmp_lt, lg_cmp_gt, Int64.lt_iff_toInt_lt, Int64.lt_iff_toInt_lt]
  exact ⟨fun c => h0 (by omega), fun c => ⟨fun c2 => h0 (by omega), fun c2 => h1 (by omega) (by omega)⟩⟩
theorem e_in3 {x : Int32} {a b : Int64} {Q : Int32 → Prop} (lo hi : Int) (ha : a.toInt = lo) (hb : b.toInt = hi) (h1 : lo ≤ x.toInt → x.toInt ≤ hi → Q 1) (h0 : ¬ (lo ≤ x.toInt ∧ x.toInt ≤ hi) → Q 0) : wp_X7_in x.toInt64 a b Q := by
  subst ha; subst hb
  refine e_in ?_ ?_ <;> rw [Int32.toInt_toInt64] <;> assumption
abbrev isC (p : Int32) : Prop := 0 ≤ p.toInt ∧ p.toInt < 20
theorem e_hasCell {p : Int32} {Q : Int32 → Prop} (h1 : isC p → Q 1) (h0 : ¬ isC p → Q 0) : wp_X2_hasCell p Q := by
  unfold wp_X2_hasCell
  simp only [isC] at *
  have e20 : (20 : Int32).toInt = 20 := rfl
  have e0 : (0 : Int32).toInt = 0 := rfl
  rw [Int32.lt_iff_toInt_lt, Int32.le_iff_toInt_le]
  exact ⟨fun c => h0 (by omega), fun c => ⟨fun c2 => h0 (by omega), fun c2 => h1 (by omega)⟩⟩
theorem e_isCell {p : Int32} {Q : Int32 → Prop} (h1 : isC p → Q 1) (h0 : ¬ isC p → Q 0) : wp_X7_isCell p Q := by
  unfold wp_X7_isCell
  simp only [isC] at *
  exact e_in3 0 19 rfl rfl (fun a b => ⟨rfl, h1 (by omega)⟩) (fun a => ⟨rfl, h0 (by omega)⟩)
theorem isC_n {p : Int32} (h : isC p) : ∃ k : Nat, k < 20 ∧ p.toInt = k ∧ p = Int32.ofInt k := by
  unfold isC at h
  refine ⟨p.toInt.toNat, by omega, by omega, ?_⟩
  exact ti_of (by omega)
theorem e_bitOf {p : Int32} {Q : Int32 → Prop} (hp : isC p) (h : Q ((1 : Int32) <<< (p &&& 31))) : wp_X2_bitOf p Q := by
  unfold wp_X2_bitOf
  exact e_hasCell (fun _ => ⟨fun c => absurd c (by decide), fun _ => h⟩) (fun c => absurd hp c)
theorem e_noOwner {p : Int32} {d : CS} {Q : Int32 → Prop} (hd : d.1 0 = 0) (h : Q 0) : wp_X1_hasOwner p d Q := by
  unfold wp_X1_hasOwner
  rw [hd]
  refine ⟨fun _ => h, fun c => ⟨fun _ => h, fun c2 => absurd ?_ c2⟩⟩
  rw [Int32.lt_iff_toInt_lt] at c
  rw [Int32.le_iff_toInt_le]
  omega
theorem e_noHole {p : Int32} {d : CS} {Q : Int32 → Prop} (hd : d.1 1 = 0) (h : Q 0) : wp_X1_hasHole p d Q := by
  unfold wp_X1_hasHole
  rw [hd]
  refine ⟨fun _ => h, fun c => ⟨fun _ => h, fun c2 => absurd ?_ c2⟩⟩
  rw [Int32.lt_iff_toInt_lt] at c
  rw [Int32.le_iff_toInt_le]
  omega
theorem e_turns {p : Int32} {d : CS} {Q : Int32 → Prop} (hd : d.1 1 = 0) (h : Q 0) : wp_X1_turnsOf p d Q := by
  unfold wp_X1_turnsOf
  exact e_noHole hd ⟨fun c => absurd rfl c, fun _ => h⟩
theorem e_holeCells {w : CS} {Q : Int32 → Prop} (hw : ∀ i, i < 5 → w.2.1 0 i = 0) (h : Q 0) : wp_X5_holeCells w Q := by
  unfold wp_X5_holeCells B_X5_holeCells_4
  refine LOOP_c 5 (fun i z => z.1 = 0 ∧ z.2.toInt = (i : Int)) _ ⟨rfl, rfl⟩ ?_
  rintro i ⟨x1, x2⟩ G hi ⟨h1, h2⟩ hG
  change LB_X5_holeCells_4 G w x1 x2 Q
  dsimp only at h1 h2
  subst h1
  unfold LB_X5_holeCells_4
  refine ⟨fun _ => h, fun c => ?_⟩
  have c1 : i < 5 := by rw [ti_ge (m := 5) h2 rfl] at c; omega
  refine ⟨ti_in h2 c1, ?_⟩
  intro _ e1 _ e2
  subst e1; subst e2
  refine hG _ c1 ⟨?_, ti_add h2 (by omega)⟩
  show (0 : Int32) ||| w.2.1 0 x2.toNatClampNeg = 0
  rw [ti_cl h2, hw i c1]; rfl
theorem e_holesLeft {w : CS} {Q : Int32 → Prop} (hw : ∀ i, i < 5 → w.2.1 0 i = 0) (h : Q 0) : wp_X5_holesLeft w Q := by
  unfold wp_X5_holesLeft B_X5_holesLeft_4
  refine LOOP_c 5 (fun i z => z.1 = 0 ∧ z.2.toInt = (i : Int)) _ ⟨rfl, rfl⟩ ?_
  rintro i ⟨x1, x2⟩ G hi ⟨h1, h2⟩ hG
  change LB_X5_holesLeft_4 G w x1 x2 Q
  dsimp only at h1 h2
  subst h1
  unfold LB_X5_holesLeft_4
  refine ⟨fun _ => h, fun c => ?_⟩
  have c1 : i < 5 := by rw [ti_ge (m := 5) h2 rfl] at c; omega
  refine ⟨ti_in h2 c1, fun _ => ?_, fun c2 => absurd ?_ c2⟩
  · unfold B_X5_holesLeft_24
    intro _ e1
    subst e1
    exact hG _ c1 ⟨rfl, ti_add h2 (by omega)⟩
  · rw [ti_cl h2, hw i c1]
theorem e_openCells {w : CS} {Q : Int32 → Prop} (hw : ∀ i, i < 5 → w.2.1 0 i = 0) (he : w.1 4 = 0) (h : Q 0) : wp_X5_openCells w Q := by
  unfold wp_X5_openCells
  refine e_holeCells hw ?_
  rw [he]; exact h
theorem e_pasteCells {w : CS} {Q : Int32 → Prop} (hw : ∀ i, i < 5 → w.2.1 0 i = 0) (he : w.1 4 = 0) (h : Q 1048575) : wp_X5_pasteCells w Q := by
  unfold wp_X5_pasteCells
  refine e_holeCells hw ?_
  rw [he]; exact h
theorem e_softPaste {w d : CS} {Q : Int32 → Prop} (hw : ∀ i, i < 5 → w.2.1 0 i = 0) (he : w.1 4 = 0) (hd : d.1 7 = 0) (h : Q 1048575) : wp_X5_softPaste w d Q := by
  unfold wp_X5_softPaste
  refine e_holeCells hw ?_
  rw [he, hd]; exact h
theorem e_bits20 {Q : Int32 → Prop} (h : Q 20) : wp_J6_bitCount_0f7a4 1048575 Q := by
  unfold wp_J6_bitCount_0f7a4
  intro _ e1 _ e2 _ e3 _ e4 _ e5
  subst e1; subst e2; subst e3; subst e4; subst e5
  exact h
theorem e_bits0 {Q : Int32 → Prop} (h : Q 0) : wp_J6_bitCount_0f7a4 0 Q := by
  unfold wp_J6_bitCount_0f7a4
  intro _ e1 _ e2 _ e3 _ e4 _ e5
  subst e1; subst e2; subst e3; subst e4; subst e5
  exact h
theorem e_holeAt {p : Int32} {w : CS} {Q : Int32 → Prop} (hw : ∀ i, i < 5 → w.2.1 0 i = 0) (h : Q (-9)) : wp_X5_holeAt p w Q := by
  unfold wp_X5_holeAt
  refine sf_X2_bitOf (fun r => ?_)
  unfold B_X5_holeAt_7
  refine LOOP_c 5 (fun i z => z.1 = r ∧ z.2.toInt = (i : Int)) _ ⟨rfl, rfl⟩ ?_
  rintro i ⟨x1, x2⟩ G hi ⟨h1, h2⟩ hG
  change LB_X5_holeAt_7 G w x1 x2 Q
  dsimp only at h1 h2
  subst h1
  unfold LB_X5_holeAt_7
  refine ⟨fun _ => h, fun c => ?_⟩
  have c1 : i < 5 := by rw [ti_ge (m := 5) h2 rfl] at c; omega
  refine ⟨ti_in h2 c1, fun _ => ?_, fun c2 => absurd ?_ c2⟩
  · intro _ e1
    subst e1
    exact hG _ c1 ⟨rfl, ti_add h2 (by omega)⟩
  · rw [ti_cl h2, hw i c1]
    exact Int32.zero_and
theorem e_copy {s0 s1 : CS} {Q : CS → CS → Prop} (h : ∀ v : CS, (∀ i, i < 5 → v.2.1 0 i = s1.2.1 0 i) → v.1 4 = s1.1 4 → Q v s1) : wp_X5_copyFrom s0 s1 Q := by
  unfold wp_X5_copyFrom
  intro _ e1 _ e2 _ e3 _ e4 _ e5 _ e6
  subst e1; subst e2; subst e3; subst e4; subst e5; subst e6
  refine h _ (fun i hi => ?_) rfl
  show va_cpy (s1.2.1 0) (s0.2.1 0) 0 0 5 i = s1.2.1 0 i
  unfold va_cpy
  rw [if_pos ⟨by omega, by omega⟩, show 0 + (i - 0) = i by omega]
theorem e_join {w : CS} {Q : Int32 → CS → Prop} (hw : ∀ i, i < 5 → w.2.1 0 i = 0) (h : Q 0 w) : wp_X5_joinFirstPair w Q := by
  unfold wp_X5_joinFirstPair B_X5_joinFirstPair_2
  refine LOOP_c 5 (fun i z => z.1.toInt = (i : Int) ∧ z.2 = w) _ ⟨rfl, rfl⟩ ?_
  rintro i ⟨x1, s⟩ G hi ⟨h1, h2⟩ hG
  change LB_X5_joinFirstPair_2 G x1 s Q
  dsimp only at h1 h2
  subst h2
  unfold LB_X5_joinFirstPair_2
  refine ⟨fun _ => h, fun c => ?_⟩
  have c1 : i < 5 := by rw [ti_ge (m := 5) h1 rfl] at c; omega
  refine ⟨ti_in h1 c1, ?_⟩
  rw [ti_cl h1, hw i c1]
  unfold wp_X2_beside
  intro _ e1 _ e2 _ e3 _ e4
  subst e1; subst e2; subst e3; subst e4
  unfold B_X5_joinFirstPair_21
  refine LOOP_c (4 - i) (fun j z => z.1 = x1 ∧ z.2.1 = 0 ∧ z.2.2.1.toInt = ((i + 1 + j : Nat) : Int) ∧ z.2.2.2 = s) _ ⟨rfl, rfl, ti_add h1 (by omega), rfl⟩ ?_
  rintro j ⟨y1, y2, y3, s2⟩ G2 hj ⟨k1, k2, k3, k4⟩ hG2
  change LB_X5_joinFirstPair_21 G2 G y1 y2 y3 s2 Q
  dsimp only at k1 k2 k3 k4
  subst k1; subst k2; subst k4
  unfold LB_X5_joinFirstPair_21
  refine ⟨fun _ => ?_, fun c3 => ?_⟩
  · intro _ e
    subst e
    exact hG _ c1 ⟨ti_add h1 (by omega), rfl⟩
  have c4 : i + 1 + j < 5 := by rw [ti_ge (m := 5) k3 rfl] at c3; omega
  refine ⟨ti_in k3 c4, fun _ => ?_, fun c5 => absurd ?_ c5⟩
  · intro _ e
    subst e
    exact hG2 _ (by omega) ⟨rfl, rfl, ti_add (i := i + 1 + j) k3 (by omega), rfl⟩
  · rw [ti_cl k3, hw _ c4]; rfl
theorem e_payRent {p : Int32} {w d : CS} {Q : CS → CS → Prop} (hd : d.1 0 = 0) (h : Q w d) : wp_X5_payRent p w d Q := by
  unfold wp_X5_payRent
  refine sf_X3_get (by decide) (fun r => ?_)
  exact e_noOwner hd ⟨fun c => absurd rfl c, fun _ => h⟩
theorem e_passDay {w d : CS} {Q : Int32 → CS → CS → Prop} (hd0 : d.1 0 = 0) (hd1 : d.1 1 = 0) (hw : ∀ i, i < 5 → w.2.1 0 i = 0) (h : Q 0 (sI w 5 (w.1 5 + 1)) d) : wp_X5_passDay w d Q := by
  have h3 : B_X5_passDay_60 0 w d Q := by
    unfold B_X5_passDay_60 B_X5_passDay_62
    refine LOOP_c 5 (fun i z => z.1 = 0 ∧ z.2.1.toInt = (i : Int) ∧ z.2.2.1 = w ∧ z.2.2.2 = d) _ ⟨rfl, rfl, rfl, rfl⟩ ?_
    rintro i ⟨x2, x3, s0, s1⟩ G hi ⟨k1, k2, k3, k4⟩ hG
    change LB_X5_passDay_62 G x2 x3 s0 s1 Q
    dsimp only at k1 k2 k3 k4
    subst k1; subst k3; subst k4
    unfold LB_X5_passDay_62
    refine ⟨fun _ => ?_, fun c => ?_⟩
    · intro _ e
      subst e
      exact h
    have c1 : i < 5 := by rw [ti_ge (m := 5) k2 rfl] at c; omega
    refine e_payRent hd0 ?_
    intro _ e
    subst e
    exact hG _ c1 ⟨rfl, ti_add k2 (by omega), rfl, rfl⟩
  have h2 : B_X5_passDay_42 0 w d Q := by
    unfold B_X5_passDay_42
    refine LOOP_c 0 (fun _ z => z = ((0 : Int32), w, d)) _ rfl ?_
    intro i z G hi e hG
    change z = _ at e
    subst e
    change LB_X5_passDay_42 G 0 w d Q
    unfold LB_X5_passDay_42
    exact ⟨fun _ => h3, fun _ => e_join hw ⟨fun _ => h3, fun c => absurd rfl c⟩⟩
  unfold wp_X5_passDay B_X5_passDay_2
  refine LOOP_c 5 (fun i z => z.1.toInt = (i : Int) ∧ z.2.1 = w ∧ z.2.2 = d) _ ⟨rfl, rfl, rfl⟩ ?_
  rintro i ⟨x2, s0, s1⟩ G hi ⟨k1, k2, k3⟩ hG
  change LB_X5_passDay_2 G x2 s0 s1 Q
  dsimp only at k1 k2 k3
  subst k2; subst k3
  unfold LB_X5_passDay_2
  refine ⟨fun _ => h2, fun c => ?_⟩
  have c1 : i < 5 := by rw [ti_ge (m := 5) k1 rfl] at c; omega
  refine e_turns hd1 ?_
  unfold B_X5_passDay_16
  refine LOOP_c 0 (fun _ z => z = (x2, (0 : Int32), (0 : Int32), s0, s1)) _ rfl ?_
  intro i2 z G2 hi2 e hG2
  change z = _ at e
  subst e
  change LB_X5_passDay_16 G2 G x2 0 0 s0 s1 Q
  unfold LB_X5_passDay_16
  refine ⟨fun _ => ?_, fun c => absurd (show (0 : Int32) ≤ 0 by decide) c⟩
  intro _ e
  subst e
  exact hG _ c1 ⟨ti_add k1 (by omega), rfl, rfl⟩
theorem e_steps0 {p q : Int32} {Q : Int32 → Prop} (hp : isC p) (hq : isC q) (h : Q (if p = q then 0 else -9)) : wp_X2_steps p q 0 Q := by
  unfold wp_X2_steps
  refine ⟨fun c => ?_, fun c => ?_⟩
  · rw [if_neg c] at h
    refine e_bitOf hq ?_
    refine e_bitOf hp ?_
    intro _ e
    rw [Int32.and_zero] at e
    subst e
    unfold B_X2_steps_23
    refine LOOP_c 19 (fun i z => z.1 = 0 ∧ z.2.2.1 = 0 ∧ z.2.2.2.toInt = ((1 + i : Nat) : Int)) _ ⟨rfl, rfl, rfl⟩ ?_
    rintro i ⟨x2, x3, x4, x5⟩ G hi ⟨k1, k2, k3⟩ hG
    change LB_X2_steps_23 G x2 x3 x4 x5 Q
    dsimp only at k1 k2 k3
    subst k1; subst k2
    unfold LB_X2_steps_23
    refine ⟨fun _ => h, fun c => ?_⟩
    have c1 : i < 19 := by rw [ti_ge (m := 20) k3 rfl] at c; omega
    refine sf_X2_beside (fun r => ?_)
    intro _ e
    rw [Int32.and_zero] at e
    subst e
    refine ⟨fun _ => ?_, fun c2 => absurd Int32.zero_and c2⟩
    intro _ e
    subst e
    exact hG _ c1 ⟨rfl, rfl, ti_add (i := 1 + i) k3 (by omega)⟩
  · rw [if_pos c] at h
    exact h
