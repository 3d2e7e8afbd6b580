theorem and1 (y : Int32) : y &&& 1 = 0 ∨ y &&& 1 = 1 := by
  have h : (y &&& 1).toBitVec = BitVec.setWidth 32 (BitVec.ofBool (y.toBitVec.getLsbD 0)) := by
    rw [Int32.toBitVec_and]
    exact BitVec.and_one_eq_setWidth_ofBool_getLsbD
  cases e : y.toBitVec.getLsbD 0 <;> rw [e] at h
  · exact Or.inl (Int32.toBitVec_inj.mp (h.trans (by decide)))
  · exact Or.inr (Int32.toBitVec_inj.mp (h.trans (by decide)))
theorem s_ones {x : Int32} {Q : Int32 → Prop} (h : ∀ r : Int32, 0 ≤ r.toInt → r.toInt ≤ 20 → Q r) : wp_X7_ones x Q := by
  unfold wp_X7_ones B_X7_ones_4
  refine LOOP_c 20 (fun i z => (0 ≤ z.2.1.toInt ∧ z.2.1.toInt ≤ (i : Int)) ∧ z.2.2.toInt = (i : Int)) _ ⟨⟨i0_ok, i0_ok⟩, rfl⟩ ?_
  rintro i ⟨x0, x1, x2⟩ G hi ⟨k1, k2⟩ hG
  change LB_X7_ones_4 G x0 x1 x2 Q
  dsimp only at k1 k2
  unfold LB_X7_ones_4
  refine ⟨fun _ => h _ k1.1 (by omega), fun c => ?_⟩
  have c1 : i < 20 := by rw [ti_ge (m := 20) k2 rfl] at c; omega
  intro y e z e2
  subst e2
  refine hG _ c1 ⟨?_, ti_add k2 (by omega)⟩
  show 0 ≤ y.toInt ∧ y.toInt ≤ ((i + 1 : Nat) : Int)
  obtain ⟨n, hn⟩ := nat_of k1.1
  rcases and1 (x0 >>> (x2 &&& 31)) with e3 | e3 <;> rw [e3] at e <;> subst e
  · have := ti_add2 hn (show (0 : Int32).toInt = ((0 : Nat) : Int) from rfl) (by omega)
    omega
  · have := ti_add2 hn (show (1 : Int32).toInt = ((1 : Nat) : Int) from rfl) (by omega)
    omega
theorem s_factorial {x : Int32} {Q : Int32 → Prop} (hx : x.toInt ≤ 20) (h : ∀ r : Int32, (x.toInt ≤ 4 → ¬ r = 0) → Q r) : wp_X7_factorial x Q := by
  unfold wp_X7_factorial B_X7_factorial_4
  refine LOOP_c 20 (fun i z => z.1 = x ∧ z.2.2.toInt = ((i + 2 : Nat) : Int) ∧ (x.toInt ≤ 4 → (i = 0 ∧ z.2.1 = 1) ∨ (i = 1 ∧ z.2.1 = 2) ∨ (i = 2 ∧ z.2.1 = 6) ∨ (i = 3 ∧ z.2.1 = 24))) _ ⟨rfl, rfl, fun _ => Or.inl ⟨rfl, rfl⟩⟩ ?_
  rintro i ⟨x0, x1, x2⟩ G hi ⟨k1, k2, k3⟩ hG
  change LB_X7_factorial_4 G x0 x1 x2 Q
  dsimp only at k1 k2 k3
  subst k1
  unfold LB_X7_factorial_4
  refine ⟨fun _ => h _ (fun c => ?_), fun c => ?_⟩
  · rcases k3 c with ⟨_, e⟩ | ⟨_, e⟩ | ⟨_, e⟩ | ⟨_, e⟩ <;> subst e <;> decide
  rw [Int32.lt_iff_toInt_lt] at c
  intro y e z e2
  subst e; subst e2
  refine hG _ (by omega) ⟨rfl, ti_add k2 (by omega), fun c4 => ?_⟩
  show (i + 1 = 0 ∧ x1 * x2 = 1) ∨ (i + 1 = 1 ∧ x1 * x2 = 2) ∨ (i + 1 = 2 ∧ x1 * x2 = 6) ∨ (i + 1 = 3 ∧ x1 * x2 = 24)
  have e5 := ti_of k2
  rcases k3 c4 with ⟨e, e2⟩ | ⟨e, e2⟩ | ⟨e, e2⟩ | ⟨e, e2⟩ <;> subst e e2 e5
  · exact Or.inr (Or.inl ⟨rfl, by decide⟩)
  · exact Or.inr (Or.inr (Or.inl ⟨rfl, by decide⟩))
  · exact Or.inr (Or.inr (Or.inr ⟨rfl, by decide⟩))
  · omega
theorem rem_lt {x y : Int32} (hy : ¬ y = 0) : (x - x / y * y).toInt.natAbs < y.toInt.natAbs := by
  have hy0 : ¬ y.toInt = 0 := fun e => hy (Int32.toInt_inj.mp (e.trans rfl))
  have e : (x - x / y * y).toInt = x.toInt.tmod y.toInt := by
    rw [Int32.toInt_sub, Int32.toInt_mul, Int32.toInt_div, Int.bmod_mul_bmod, Int.sub_bmod_bmod, Int.mul_comm, ← Int.tmod_def, ← Int32.toInt_mod]
    have h1 := (x % y).toInt_lt
    have h2 := (x % y).le_toInt
    exact Int.bmod_eq_of_le (by omega) (by omega)
  rw [e, Int.natAbs_tmod]
  exact Nat.mod_lt _ (by omega)
theorem s_common {p q : Int32} {Q : Int32 → Prop} (hq : ¬ q = 0) (h : ∀ r : Int32, ¬ r = 0 → Q r) : wp_X7_common p q Q := by
  have g : ∀ t, B_X7_common_10 q t Q := by
    intro t
    unfold B_X7_common_10 B_X7_common_13
    refine LOOP_m (fun z => ¬ z.1 = 0 ∨ ¬ z.2 = 0) (fun z => z.2.toInt.natAbs) _ (Or.inr hq) ?_
    rintro ⟨x2, x3⟩ G k1 hG
    change LB_X7_common_13 G x2 x3 Q
    dsimp only at k1
    unfold LB_X7_common_13
    refine ⟨fun e => h _ (k1.resolve_right (fun c => c e)), fun c => ⟨c, ?_⟩⟩
    intro y e
    subst e
    exact hG _ (Or.inl c) (rem_lt c)
  unfold wp_X7_common
  exact ⟨fun _ => g _, fun _ => g _⟩
def bt (x : Int32) (k : Nat) : Bool := x.toBitVec.getLsbD k
def hi20 (x : Int32) : Prop := x.toBitVec.toNat < 2 ^ 20
theorem bt_shr {x : Int32} {k : Nat} (hk : k < 20) : ((x >>> (Int32.ofInt (k : Nat) &&& 31)) &&& 1 = 1) ↔ bt x k = true := by
  have hs : ∀ k, k < 20 → ((Int32.ofInt (k : Nat) &&& 31).toBitVec.smod 32) = BitVec.ofNat 32 k := by decide +kernel
  have e : (x >>> (Int32.ofInt (k : Nat) &&& 31)).toBitVec.getLsbD 0 = bt x k := by
    rw [Int32.toBitVec_shiftRight, hs k hk, BitVec.sshiftRight_eq', BitVec.toNat_ofNat, Nat.mod_eq_of_lt (by omega), BitVec.getLsbD_sshiftRight]
    simp [bt, show k < 32 by omega]
  have e2 : ((x >>> (Int32.ofInt (k : Nat) &&& 31)) &&& 1).toBitVec.getLsbD 0 = bt x k := by
    rw [Int32.toBitVec_and, BitVec.getLsbD_and, e]
    exact Bool.and_true _
  rcases and1 (x >>> (Int32.ofInt (k : Nat) &&& 31)) with e3 | e3 <;> rw [e3] at e2 ⊢
  · rw [← e2]
    decide
  · rw [← e2]
    decide
theorem s_leastZ {x : Int32} {Q : Int32 → Prop} (hx : hi20 x) (hx0 : ¬ x = 0) (h : ∀ (r : Int32) (k : Nat), k < 20 → r = Int32.ofInt (k : Nat) → bt x k = true → Q r) : wp_X7_least x Q := by
  unfold wp_X7_least B_X7_least_2
  refine LOOP_c 20 (fun i z => z.1 = x ∧ z.2.toInt = (i : Int) ∧ ∀ j, j < i → bt x j = false) _ ⟨rfl, rfl, fun j hj => by omega⟩ ?_
  rintro i ⟨x0, x1⟩ G hi ⟨k1, k2, k3⟩ hG
  change LB_X7_least_2 G x0 x1 Q
  dsimp only at k1 k2 k3
  subst k1
  unfold LB_X7_least_2
  refine ⟨fun c => absurd ?_ hx0, fun c => ?_⟩
  · have c1 : i = 20 := by rw [ti_ge (m := 20) k2 rfl] at c; omega
    subst c1
    have hz : x0.toBitVec.toNat = 0 := by
      refine Nat.eq_of_testBit_eq (fun j => ?_)
      rw [Nat.zero_testBit]
      by_cases hj : j < 20
      · exact k3 j hj
      · exact Nat.testBit_lt_two_pow (Nat.lt_of_lt_of_le hx (Nat.pow_le_pow_right (by decide) (by omega)))
    exact Int32.toBitVec_inj.mp (BitVec.eq_of_toNat_eq (hz.trans rfl))
  have c1 : i < 20 := by rw [ti_ge (m := 20) k2 rfl] at c; omega
  unfold wp_X7_has
  refine ⟨fun c2 => ⟨fun _ => ?_, fun c => absurd rfl c⟩, fun c2 => ⟨fun c => absurd c (by decide), fun _ => ?_⟩⟩
  · intro _ e
    subst e
    rw [ti_of k2, bt_shr c1] at c2
    refine hG _ c1 ⟨rfl, ti_add k2 (by omega), fun j hj => ?_⟩
    by_cases e : j = i
    · subst e
      exact Bool.eq_false_iff.mpr c2
    · exact k3 j (by omega)
  · rw [ti_of k2, bt_shr c1] at c2
    exact h _ i c1 (ti_of k2) c2
theorem hi20_b : ∀ k, k < 20 → ((1 : Int32) <<< (Int32.ofInt (k : Nat) &&& 31)).toBitVec.toNat < 2 ^ 20 := by decide +kernel
theorem hi20_0 : hi20 0 := by
  unfold hi20
  decide
theorem hi20_or {x y : Int32} (h : hi20 x) (h2 : hi20 y) : hi20 (x ||| y) := by
  unfold hi20
  rw [Int32.toBitVec_or, BitVec.toNat_or]
  exact Nat.or_lt_two_pow h h2
theorem hi20_and {x y : Int32} (h : hi20 x) : hi20 (x &&& y) := by
  unfold hi20
  rw [Int32.toBitVec_and, BitVec.toNat_and]
  exact Nat.lt_of_le_of_lt Nat.and_le_left h
theorem s_estateH {p : Int32} {m : CS} {Q : Int32 → Prop} (hm : Mk m) (h : ∀ r, hi20 r → Q r) : wp_X7_estate p m Q := by
  unfold wp_X7_estate B_X7_estate_4
  refine LOOP_c 20 (fun i z => hi20 z.2.1 ∧ z.2.2.toInt = (i : Int)) _ ⟨hi20_0, rfl⟩ ?_
  rintro i ⟨x1, x2, x3⟩ G hi ⟨k0, k1⟩ hG
  change LB_X7_estate_4 G m x1 x2 x3 Q
  dsimp only at k0 k1
  unfold LB_X7_estate_4
  refine ⟨fun _ => h _ k0, fun c => ?_⟩
  have c1 : i < 20 := by rw [ti_ge (m := 20) k1 rfl] at c; omega
  have nx : ∀ t, hi20 t → B_X7_estate_42 G m x1 x3 t x2 Q := by
    intro t ht
    unfold B_X7_estate_42
    intro _ e0 _ e
    subst e0; subst e
    exact hG _ c1 ⟨hi20_or k0 ht, ti_add k1 (by omega)⟩
  have n0 := nx 0 hi20_0
  have nb := nx ((1 : Int32) <<< (x3 &&& 31)) (by rw [ti_of k1]; exact hi20_b i c1)
  unfold B_X7_estate_41
  exact s_ownerOf (L := 0) rfl (by omega) k1 c1 hm (fun r _ => ⟨fun _ => n0, fun _ => sf_X7_has (fun r2 _ => ⟨fun _ => n0, fun _ => nb⟩)⟩)
theorem bt_or {x y : Int32} {k : Nat} : bt (x ||| y) k = (bt x k || bt y k) := by
  unfold bt
  rw [Int32.toBitVec_or, BitVec.getLsbD_or]
theorem bt_and {x y : Int32} {k : Nat} : bt (x &&& y) k = (bt x k && bt y k) := by
  unfold bt
  rw [Int32.toBitVec_and, BitVec.getLsbD_and]
theorem bt_not {x : Int32} {k : Nat} (hk : k < 20) : bt (x ^^^ (-1 : Int32)) k = !bt x k := by
  have hs : ∀ k, k < 20 → (-1 : Int32).toBitVec.getLsbD k = true := by decide +kernel
  unfold bt
  rw [Int32.toBitVec_xor, BitVec.getLsbD_xor, hs k hk]
  exact Bool.xor_true _
theorem bt_one : ∀ k, k < 20 → bt ((1 : Int32) <<< (Int32.ofInt (k : Nat) &&& 31)) k = true := by
  unfold bt
  decide +kernel
theorem s_largest {p : Int32} {m : CS} {Q : Int32 → Prop} (hm : Mk m) (h : ∀ r, Q r) : wp_X7_largest p m Q := by
  unfold wp_X7_largest
  refine s_estateH hm (fun r hr => ?_)
  unfold B_X7_largest_8
  refine LOOP_m (fun z => hi20 z.1) (fun z => z.1.toBitVec.toNat) _ hr ?_
  rintro ⟨x2, x3⟩ G k1 hG
  change LB_X7_largest_8 G m x2 x3 Q
  dsimp only at k1
  unfold LB_X7_largest_8
  refine ⟨fun _ => h _, fun c => ?_⟩
  refine s_leastZ k1 c (fun r k hk hr hb => ?_)
  intro x4 e4
  subst hr
  refine sf_X7_beside (fun r11 => ?_)
  intro x5 e5
  have b4 : bt x4 k = true := by rw [e4]; exact bt_one k hk
  have l45 : x4.toBitVec.toNat ≤ x5.toBitVec.toNat := by
    rw [e5, Int32.toBitVec_or, BitVec.toNat_or]
    exact Nat.left_le_or
  unfold B_X7_largest_32
  refine LOOP_m (fun z => z.1 = x2 ∧ bt z.2.2.1 k = true ∧ bt z.2.2.2 k = true ∧ z.2.2.1.toBitVec.toNat ≤ z.2.2.2.toBitVec.toNat) (fun z => 2 ^ 32 - z.2.2.1.toBitVec.toNat) _ ⟨rfl, b4, by rw [e5, bt_or, b4]; rfl, l45⟩ ?_
  rintro ⟨y2, y3, y4, y5⟩ G2 ⟨m1, m2, m3, m4⟩ hG2
  change LB_X7_largest_32 G2 G m y2 y3 y4 y5 Q
  dsimp only at m1 m2 m3 m4
  subst m1
  unfold LB_X7_largest_32
  have nx : ∀ t, B_X7_largest_76 G m y2 y4 t Q := by
    intro t
    unfold B_X7_largest_76
    intro z e
    subst e
    refine hG _ (hi20_and k1) ?_
    show (y2 &&& (y4 ^^^ (-1 : Int32))).toBitVec.toNat < y2.toBitVec.toNat
    have hle : (y2 &&& (y4 ^^^ (-1 : Int32))).toBitVec.toNat ≤ y2.toBitVec.toNat := by
      rw [Int32.toBitVec_and, BitVec.toNat_and]
      exact Nat.and_le_left
    refine Nat.lt_of_le_of_ne hle (fun e => ?_)
    have e2 : y2 &&& (y4 ^^^ (-1 : Int32)) = y2 := Int32.toBitVec_inj.mp (BitVec.eq_of_toNat_eq e)
    have e3 : bt (y2 &&& (y4 ^^^ (-1 : Int32))) k = bt y2 k := by rw [e2]
    rw [bt_and, bt_not hk, m2, hb] at e3
    exact absurd e3 (by decide)
  refine ⟨fun _ => sf_X7_ones (fun _ => ⟨fun _ => nx _, fun _ => sf_X7_ones (fun _ => nx _)⟩), fun c2 => ?_⟩
  refine sf_X7_beside (fun r6 => ?_)
  intro y7 e7
  refine hG2 _ ⟨rfl, m3, ?_, ?_⟩ ?_
  · show bt y7 k = true
    rw [e7, bt_or, m3]
    rfl
  · show y5.toBitVec.toNat ≤ y7.toBitVec.toNat
    rw [e7, Int32.toBitVec_or, BitVec.toNat_or]
    exact Nat.left_le_or
  · show 2 ^ 32 - y5.toBitVec.toNat < 2 ^ 32 - y4.toBitVec.toNat
    have n1 : ¬ y4.toBitVec.toNat = y5.toBitVec.toNat := fun e => c2 (Int32.toBitVec_inj.mp (BitVec.eq_of_toNat_eq e)).symm
    have n2 := y5.toBitVec.isLt
    omega
