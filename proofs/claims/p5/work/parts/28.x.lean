theorem s_cut {p q r : Int32} {m : CS} {Q : Int32 → Prop} (hm : Mk m) (h : ∀ r, Q r) : wp_X7_cut p q r m Q := by
  unfold wp_X7_cut
  refine s_isOwner hm (fun _ _ _ => ⟨fun _ => h _, fun _ => s_isOwner hm (fun _ _ _ => ⟨fun _ => ⟨fun _ => h _, fun _ => sf_X7_in (fun _ _ => ⟨fun _ => ?_, fun _ => h _⟩)⟩, fun _ => h _⟩) ⟨fun c => absurd rfl c, fun _ => h _⟩⟩) ⟨fun _ => h _, fun c => absurd rfl c⟩
  unfold B_X7_cut_46
  refine LOOP_c 4 (fun i z => z.2.2.2.2.2.toInt = ((i + 1 : Nat) : Int)) _ rfl ?_
  rintro i ⟨x1, x2, x3, x4, x5, x6⟩ G hi k1 hG
  change LB_X7_cut_46 G m x1 x2 x3 x4 x5 x6 Q
  dsimp only at k1
  unfold LB_X7_cut_46
  refine ⟨fun _ => ⟨fun _ => h _, fun _ => h _⟩, fun c => ?_⟩
  have c1 : i < 4 := by rw [ti_ge (m := 5) k1 rfl] at c; omega
  unfold B_X7_cut_58
  refine LOOP_c 20 (fun j z => z.2.2.2.2.2.1 = x6 ∧ z.2.2.2.2.2.2.2.toInt = (j : Int)) _ ⟨rfl, rfl⟩ ?_
  rintro j ⟨y1, y2, y3, y4, y5, y6, y7, y8⟩ G2 hj ⟨l1, l2⟩ hG2
  change LB_X7_cut_58 G2 G m y1 y2 y3 y4 y5 y6 y7 y8 Q
  dsimp only at l1 l2
  subst l1
  unfold LB_X7_cut_58
  have n119 : ∀ t, B_X7_cut_119 G m y1 y2 y3 y5 y6 y7 t Q := by
    intro t
    unfold B_X7_cut_119 B_X7_cut_135
    refine ⟨fun _ => ?_, fun _ => ?_⟩ <;> intro _ e <;> subst e <;> exact hG _ c1 (ti_add k1 (by omega))
  refine ⟨fun _ => ⟨fun _ => n119 _, fun _ => n119 _⟩, fun c => ?_⟩
  have c2 : j < 20 := by rw [ti_ge (m := 20) l2 rfl] at c; omega
  have n88 : ∀ t u, B_X7_cut_88 G G2 m y1 y2 y3 y4 y5 y6 y8 t u y7 Q := by
    intro t u
    unfold B_X7_cut_88 B_X7_cut_96
    refine ⟨fun _ => ?_, fun _ => ?_⟩ <;> intro _ _ _ e <;> subst e <;> exact hG2 _ c2 ⟨rfl, ti_add l2 (by omega)⟩
  exact s_ownerOf (L := 0) rfl (by omega) l2 c2 hm (fun _ _ => ⟨fun _ => n88 _ _, fun _ => n88 _ _⟩)
theorem s_mayBegin {p q : Int32} {m : CS} {Q : Int32 → Prop} (hm : Mk m) (h : ∀ r, Q r) : wp_X7_mayBegin p q m Q := by
  obtain ⟨T, hT⟩ := nat_of hm.2.2.2.2.2.2.2.2.1.1
  have hT6 := hm.2.2.2.2.2.2.2.2.1.2
  unfold wp_X7_mayBegin
  intro x3 _
  unfold B_X7_mayBegin_10
  refine LOOP_c 10 (fun i z => (z.2.2.1 = 0 ∨ z.2.2.1 = 1) ∧ z.2.2.2.toInt = (i : Int)) _ ⟨Or.inr rfl, rfl⟩ ?_
  rintro i ⟨x1, x3, x4, x5⟩ G hi ⟨k1, k2⟩ hG
  change LB_X7_mayBegin_10 G m x1 x3 x4 x5 Q
  dsimp only at k1 k2
  unfold LB_X7_mayBegin_10
  refine ⟨fun _ => ⟨nar_ok k1, h _⟩, fun c => ?_⟩
  have c1 : i < 10 := by rw [ti_ge (m := 10) k2 rfl] at c; omega
  have n92 : ∀ y3 y4, (y4 = 0 ∨ y4 = 1) → B_X7_mayBegin_92 G m x1 y3 y4 x5 0 Q := by
    intro y3 y4 hy
    unfold B_X7_mayBegin_92
    refine LOOP_c 2 (fun j z => (z.2.2.1 = 0 ∨ z.2.2.1 = 1) ∧ z.2.2.2.1 = x5 ∧ z.2.2.2.2.toInt = (j : Int)) _ ⟨hy, rfl, rfl⟩ ?_
    rintro j ⟨z1, z3, z4, z5, z6⟩ G2 hj ⟨l1, l2, l3⟩ hG2
    change LB_X7_mayBegin_92 G2 G m z1 z3 z4 z5 z6 Q
    dsimp only at l1 l2 l3
    subst l2
    have n104 : ∀ (t : Int32) (k : Nat), t.toInt = k → k ≤ 2 → B_X7_mayBegin_104 G G2 m z1 z3 z4 z5 z6 t z6 Q := by
      intro t k ht hk
      unfold B_X7_mayBegin_104
      refine ⟨fun _ => ?_, fun c => ?_⟩
      · intro _ e
        subst e
        exact hG _ c1 ⟨l1, ti_add k2 (by omega)⟩
      · have c2 : j < 2 := by rw [ti_ge l3 ht] at c; omega
        unfold B_X7_mayBegin_137
        refine sf_X7_takes (fun _ => ⟨fun _ => ?_, fun _ => ?_⟩) <;> intro _ _ _ e <;> subst e <;> exact hG2 _ c2 ⟨l1, rfl, ti_add l3 (by omega)⟩
    unfold LB_X7_mayBegin_92
    exact ⟨fun _ => n104 _ 1 rfl (by omega), fun _ => n104 _ 2 rfl (by omega)⟩
  unfold B_X7_mayBegin_20
  refine LOOP_c 6 (fun j z => z.1 = x1 ∧ (z.2.2.1 = 0 ∨ z.2.2.1 = 1) ∧ z.2.2.2.1 = x5 ∧ z.2.2.2.2.toInt = (j : Int)) _ ⟨rfl, k1, rfl, rfl⟩ ?_
  rintro j ⟨z1, z3, z4, z5, z6⟩ G2 hj ⟨l0, l1, l2, l3⟩ hG2
  change LB_X7_mayBegin_20 G2 G m z1 z3 z4 z5 z6 Q
  dsimp only at l0 l1 l2 l3
  subst l0 l2
  unfold LB_X7_mayBegin_20
  refine ⟨fun _ => n92 _ _ l1, fun c => ?_⟩
  have c2 : j < T := by rw [ti_ge l3 hT] at c; omega
  have n81 : ∀ t, (t = 0 ∨ t = 1) → B_X7_mayBegin_81 G G2 m z1 z3 z5 z6 t Q := by
    intro t ht
    unfold B_X7_mayBegin_81
    intro _ e
    subst e
    exact hG2 _ (by omega) ⟨rfl, ht, rfl, ti_add l3 (by omega)⟩
  have n80 : B_X7_mayBegin_80 G G2 m z1 z3 z5 z6 Q := by
    unfold B_X7_mayBegin_80
    exact n81 _ (Or.inl rfl)
  have n76 : B_X7_mayBegin_76 G G2 m z1 z3 z5 z6 Q := by
    unfold B_X7_mayBegin_76
    exact n81 _ (Or.inr rfl)
  have n73 : ∀ t u, B_X7_mayBegin_73 G G2 m z1 z3 z5 z6 t u Q := by
    intro t u
    unfold B_X7_mayBegin_73
    exact ⟨fun _ => n80, fun _ => n76⟩
  have v6 : vp_in z6 6 := ti_in l3 (by omega)
  exact ⟨fun _ => n80, fun _ => ⟨v6, fun _ => n76, fun _ => ⟨v6, sf_X7_has (fun _ _ => ⟨v6, fun _ => n73 _ _, fun _ => n73 _ _⟩)⟩⟩⟩
theorem s_began {p : Int32} {m : CS} {Q : Int32 → Prop} (hm : Mk m) (h : ∀ r, Q r) : wp_X7_began p m Q := by
  unfold wp_X7_began
  refine sf_X7_in (fun _ _ => ⟨fun _ => ?_, fun _ => h _⟩)
  unfold B_X7_began_19
  refine LOOP_c 20 (fun i z => z.2.2.toInt = (i : Int)) _ rfl ?_
  rintro i ⟨x1, x2, x3⟩ G hi k1 hG
  change LB_X7_began_19 G m x1 x2 x3 Q
  dsimp only at k1
  unfold LB_X7_began_19
  refine ⟨fun _ => h _, fun c => ?_⟩
  have c1 : i < 20 := by rw [ti_ge (m := 20) k1 rfl] at c; omega
  unfold B_X7_began_42
  refine s_mayBegin hm (fun _ => ⟨fun _ => ?_, fun _ => ?_⟩) <;> intro _ _ _ e <;> subst e <;> exact hG _ c1 (ti_add k1 (by omega))
theorem pw_4 : ∀ n, n < 5 → ((1 : Int32) <<< (Int32.ofInt (n : Nat) &&& 31)).toInt = ((2 ^ n : Nat) : Int) ∧ 2 ^ n ≤ 16 := by decide +kernel
theorem pw_5 : ∀ n, n < 6 → ((1 : Int32) <<< (Int32.ofInt (n : Nat) &&& 31)).toInt = ((2 ^ n : Nat) : Int) ∧ 2 ^ n ≤ 32 := by decide +kernel
theorem s_share {p q : Int32} {m : CS} {Q : Int32 → Prop} (hm : Mk m) (h : ∀ r, Q r) : wp_X7_share p q m Q := by
  obtain ⟨N, hN⟩ := nat_of hm.1.1
  have hN4 := hm.1.2
  obtain ⟨pw, pw2⟩ := pw_4 N (by omega)
  rw [← ti_of hN] at pw
  unfold wp_X7_share
  refine s_isOwner hm (fun _ _ _ => ⟨fun _ => ?_, fun _ => h _⟩) ⟨fun c => absurd rfl c, fun _ => h _⟩
  unfold B_X7_share_15
  refine LOOP_c 16 (fun i z => z.2.2.2.toInt = (i : Int)) _ rfl ?_
  rintro i ⟨x1, x2, x3, x4⟩ G hi k1 hG
  change LB_X7_share_15 G m x1 x2 x3 x4 Q
  dsimp only at k1
  unfold LB_X7_share_15
  refine ⟨fun _ => ?_, fun c => ?_⟩
  · refine s_factorial (by omega) (fun r hr => s_common (hr (by omega)) (fun r4 h4 => ⟨fun _ => ?_, fun _ => ⟨h4, h _⟩⟩))
    exact s_factorial (by omega) (fun r6 _ => ⟨h4, h _⟩)
  have c1 : i < 16 := by rw [ti_ge k1 pw] at c; omega
  have nx : ∀ t, B_X7_share_84 G m x1 x2 t x4 Q := by
    intro t
    unfold B_X7_share_84
    intro _ e
    subst e
    exact hG _ c1 (ti_add k1 (by omega))
  refine sf_X7_has (fun _ _ => ⟨fun _ => nx _, fun _ => ?_⟩)
  refine s_ones (fun r11 a1 a2 => s_factorial (by omega) (fun r12 _ => s_ones (fun r13 b1 b2 => s_factorial ?_ (fun r14 _ => ?_))))
  · obtain ⟨R, hR⟩ := nat_of b1
    rw [Int32.toInt_sub, Int32.toInt_sub, show (1 : Int32).toInt = 1 from rfl, Int.bmod_sub_bmod, Int.bmod_eq_of_le (by omega) (by omega)]
    omega
  intro _ _
  exact s_largest hm (fun _ => s_largest hm (fun _ => fun _ _ => nx _))
theorem full_has : ∀ H, H < 6 → ∀ h, h < H → (Int32.ofInt ((2 ^ H - 1 : Nat) : Int) >>> (Int32.ofInt (h : Nat) &&& 31)) &&& 1 = 1 := by decide +kernel
theorem ti_subN {x y : Int32} {i j : Nat} (h : x.toInt = i) (h2 : y.toInt = j) (hi : j ≤ i) (hb : i < 2147483648) : (x - y).toInt = ((i - j : Nat) : Int) := by
  rw [Int32.toInt_sub, h, h2, Int.bmod_eq_of_le (by omega) (by omega)]
  omega
theorem s_passes {a b c u : Int32} {m : CS} {Q : Int32 → Prop} (hm : Mk m) (h : ∀ r, Q r) : wp_X7_passes a b c u m Q := by
  obtain ⟨H, hH⟩ := nat_of hm.2.1.1
  have hH5 := hm.2.1.2
  obtain ⟨pw, pw2⟩ := pw_5 H (by omega)
  rw [← ti_of hH] at pw
  have p0 : 0 < 2 ^ H := Nat.pow_pos (by decide)
  unfold wp_X7_passes
  refine sf_X7_isCell (fun _ _ => ⟨fun _ => h _, fun _ => sf_X7_isCell (fun _ _ => ⟨fun _ => ?_, fun _ => h _⟩)⟩)
  refine e_in3 0 10 rfl rfl (fun v0 v1 => ⟨fun _ => ?_, fun c => absurd c (by decide)⟩) (fun _ => ⟨fun c => absurd rfl c, fun _ => h _⟩)
  obtain ⟨X, hX⟩ := nat_of v0
  have hX2 := ti_subN (show (10 : Int32).toInt = ((10 : Nat) : Int) from rfl) hX (by omega) (by omega)
  unfold B_X7_passes_40
  refine LOOP_c (2 ^ H) (fun i z => z.2.2.1 = c ∧ z.2.2.2.2.2.2.toInt = (i : Int) ∧ ∃ A : Nat, z.2.2.2.2.2.1.toInt = (A : Int) ∧ A ≤ i * 100000 ∧ (X < 10 → 0 < i → 0 < A) ∧ (X = 10 → i = 2 ^ H → 0 < A)) _ ⟨rfl, rfl, 0, rfl, by omega, fun _ c => absurd c (by omega), fun _ c => by omega⟩ ?_
  rintro i ⟨x1, x2, x3, x4, x5, x6, x7⟩ G hi ⟨k1, k2, A, k3, k4, k5, k6⟩ hG
  change LB_X7_passes_40 G m x1 x2 x3 x4 x5 x6 x7 Q
  dsimp only at k1 k2 k3
  subst k1
  unfold LB_X7_passes_40
  refine ⟨fun c => ?_, fun c => ?_⟩
  · have c1 : i = 2 ^ H := by rw [ti_ge k2 pw] at c; omega
    have hA : 0 < A := by
      by_cases e : X < 10
      · exact k5 e (by omega)
      · exact k6 (by omega) c1
    have n6 : ¬ x6 = 0 := by
      intro e
      rw [e, show (0 : Int32).toInt = 0 from rfl] at k3
      omega
    exact s_common n6 (fun r hr => ⟨fun _ => ⟨hr, h _⟩, fun _ => ⟨hr, h _⟩⟩)
  have c1 : i < 2 ^ H := by rw [ti_ge k2 pw] at c; omega
  refine s_of (L := 0) rfl (by omega) (fun r21 _ _ => ?_)
  unfold B_X7_passes_66
  refine LOOP_c H (fun j z => z.2.2.1 = x3 ∧ z.2.2.2.2.2.1 = x6 ∧ z.2.2.2.2.2.2.1 = x7 ∧ z.2.2.2.2.2.2.2.2.2.toInt = (j : Int) ∧ ∃ W : Nat, z.2.2.2.2.2.2.2.1.toInt = (W : Int) ∧ W ≤ 10 ^ j ∧ (X < 10 → i = 0 → 0 < W) ∧ (X = 10 → i + 1 = 2 ^ H → 0 < W)) _ ⟨rfl, rfl, rfl, rfl, 1, rfl, by decide, fun _ _ => by decide, fun _ _ => by decide⟩ ?_
  rintro j ⟨y1, y2, y3, y4, y5, y6, y7, y8, y9, y10⟩ G2 hj ⟨l1, l2, l3, l4, W, l5, l6, l7, l8⟩ hG2
  change LB_X7_passes_66 G2 G m y1 y2 y3 y4 y5 y6 y7 y8 y9 y10 Q
  dsimp only at l1 l2 l3 l4 l5
  subst l1 l2 l3
  have t5 : 10 ^ j ≤ 10 ^ 5 := Nat.pow_le_pow_right (by decide) (by omega)
  have e5 : (10 : Nat) ^ 5 = 100000 := by decide
  unfold LB_X7_passes_66
  refine ⟨fun _ => ?_, fun c => ?_⟩
  · intro y6b e6
    have n162 : ∀ t u, B_X7_passes_162 G m y1 y2 y3 y4 y6b y7 t u Q := by
      intro t u
      unfold B_X7_passes_162
      intro _ _ _ e
      subst e; subst e6
      refine hG _ c1 ⟨rfl, ti_add k2 (by omega), A + W, ti_add2 k3 l5 (by omega), by omega, fun q _ => ?_, fun q q2 => ?_⟩
      · by_cases e : i = 0
        · have := l7 q e
          omega
        · have := k5 q (by omega)
          omega
      · have := l8 q q2
        omega
    have n156 : ∀ u, B_X7_passes_156 G m y1 y2 y3 y4 y6b y7 y8 u Q := by
      intro u
      unfold B_X7_passes_156
      exact n162 _ _
    exact ⟨fun _ => n156 _, fun _ => sf_X7_stepsBy (fun _ => ⟨fun _ => n162 _ _, fun _ => n156 _⟩)⟩
  have c2 : j < H := by rw [ti_ge l4 hH] at c; omega
  have n95 : ∀ (f : Int32) (F : Nat), f.toInt = (F : Int) → F ≤ 10 → (X < 10 → i = 0 → 0 < F) → (X = 10 → i + 1 = 2 ^ H → 0 < F) → B_X7_passes_95 G G2 m y1 y2 y3 y4 y5 y6 y7 y9 y10 f y8 Q := by
    intro f F f1 f2 f3 f4
    have wf : W * F ≤ 10 ^ j * 10 := Nat.mul_le_mul l6 f2
    unfold B_X7_passes_95
    intro w ew
    have w1 : w.toInt = ((W * F : Nat) : Int) := by
      rw [ew]
      exact ti_mul l5 f1 (by omega)
    have n121 : ∀ t u, B_X7_passes_121 G G2 m y1 y2 y3 y4 y5 y6 y7 w y10 t u Q := by
      intro t u
      unfold B_X7_passes_121
      intro _ _ _ e
      subst e
      exact hG2 _ c2 ⟨rfl, rfl, rfl, ti_add l4 (by omega), W * F, w1, by rw [Nat.pow_succ]; exact wf, fun q q2 => Nat.mul_pos (l7 q q2) (f3 q q2), fun q q2 => Nat.mul_pos (l8 q q2) (f4 q q2)⟩
    exact sf_X7_has (fun _ _ => ⟨fun _ => s_of (L := 0) rfl (by omega) (fun _ _ _ => n121 _ _), fun _ => n121 _ _⟩)
  unfold wp_X7_has
  refine ⟨fun c3 => ⟨fun _ => ?_, fun c => absurd rfl c⟩, fun c3 => ⟨fun c => absurd c (by decide), fun _ => ?_⟩⟩
  · refine n95 _ (10 - X) hX2 (by omega) (fun q _ => by omega) (fun _ q2 => absurd ?_ c3)
    have e7 : y7 = Int32.ofInt ((2 ^ H - 1 : Nat) : Int) := ti_of (by rw [k2]; omega)
    rw [e7, ti_of l4]
    exact full_has H (by omega) j c2
  · refine n95 _ X hX (by omega) (fun _ q2 => absurd c3 ?_) (fun q _ => by omega)
    have e7 : y7 = 0 := Int32.toInt_inj.mp (by rw [k2, q2]; rfl)
    rw [e7, ti_of l4, z_shr j (by omega)]
    decide
theorem Mk_fr {m n : CS} (hm : Mk m) (h1 : ∀ k, ¬ k = 14 → ¬ k = 21 → n.1 k = m.1 k) (h14 : 0 ≤ (n.1 14).toInt ∧ (n.1 14).toInt ≤ 48) (h21 : 0 ≤ (n.1 21).toInt ∧ (n.1 21).toInt ≤ 6) (h2 : ∀ k, ¬ k = 13 → ¬ k = 22 → ¬ k = 23 → ¬ k = 24 → n.2.1 k = m.2.1 k) : Mk n := by
  obtain ⟨a1, a2, a3, a4, a5, a6, a7, a8, a9, a10⟩ := hm
  unfold Mk Rd
  unfold Rd at a5
  rw [h1 0 (by decide) (by decide), h1 1 (by decide) (by decide), h1 9 (by decide) (by decide), h1 11 (by decide) (by decide), h1 18 (by decide) (by decide), h2 3 (by decide) (by decide) (by decide) (by decide), h2 5 (by decide) (by decide) (by decide) (by decide), h2 7 (by decide) (by decide) (by decide) (by decide), h2 8 (by decide) (by decide) (by decide) (by decide), h2 19 (by decide) (by decide) (by decide) (by decide), h2 27 (by decide) (by decide) (by decide) (by decide)]
  exact ⟨a1, a2, a3, a4, a5, h14, a7, a8, h21, a10⟩
theorem sI_eq {m : CS} {k : Nat} {v : Int32} : (sI m k v).1 k = v := if_pos rfl
theorem sI_ne {m : CS} {k j : Nat} {v : Int32} (h : ¬ j = k) : (sI m k v).1 j = m.1 j := if_neg h
def wrR (p l : Int32) : Int32 := if 0 ≤ p.toInt ∧ p.toInt ≤ 255 then (if l = 48 then -4 else l + 1) else -2
def wrL (p l : Int32) : Int32 := if 0 ≤ p.toInt ∧ p.toInt ≤ 255 then (if l = 48 then l else l + 1) else l
def wrT (p l : Int32) (f : FA) : FA := if 0 ≤ p.toInt ∧ p.toInt ≤ 255 then (if l = 48 then f else upd f l.toNatClampNeg p) else f
theorem lt_of_ne {x : Int32} {i n : Nat} (M : Int32) (hM : M.toInt = n) (h : x.toInt = i) (hi : i ≤ n) (hn : ¬ x = M) : i < n := by
  rcases Nat.lt_or_ge i n with e | e
  · exact e
  · exact absurd (Int32.toInt_inj.mp (by omega)) hn
theorem s_write {p : Int32} {m : CS} {Q : Int32 → CS → Prop} (hm : Mk m) (h : ∀ n, Mk n → n.1 14 = wrL p (m.1 14) → n.1 21 = m.1 21 → n.2.2 = m.2.2 → n.2.1 13 = wrT p (m.1 14) (m.2.1 13) → Q (wrR p (m.1 14)) n) : wp_X7_write p m Q := by
  obtain ⟨l, hl⟩ := nat_of hm.2.2.2.2.2.1.1
  have hl48 := hm.2.2.2.2.2.1.2
  unfold wp_X7_write
  unfold wrR wrL wrT at h
  refine e_in3 0 255 rfl rfl (fun v0 v1 => ⟨fun _ => ⟨fun c => ?_, fun c => ?_⟩, fun c => absurd c (by decide)⟩) (fun v => ⟨fun c => absurd rfl c, fun _ => ?_⟩)
  · have v : 0 ≤ p.toInt ∧ p.toInt ≤ 255 := ⟨v0, v1⟩
    have l1 := lt_of_ne (n := 48) 48 rfl hl (by omega) c
    refine ⟨ti_in hl l1, ?_⟩
    intro s5 e5 s6 e6
    simp only [if_pos v, if_neg c] at h
    have e14 : s6.1 14 = m.1 14 + 1 := by rw [e6, sI_eq, e5]; rfl
    have a1 := ti_add hl (by omega)
    rw [e14]
    refine h s6 (Mk_fr hm (fun k q _ => ?_) ?_ ?_ (fun k q _ _ _ => ?_)) e14 ?_ ?_ ?_
    · rw [e6, sI_ne q, e5]; rfl
    · rw [e14]; omega
    · rw [e6, sI_ne (by decide), e5]
      exact hm.2.2.2.2.2.2.2.2.1
    · rw [e6, e5]
      exact sA_ne q
    · rw [e6, sI_ne (by decide), e5]; rfl
    · rw [e6, e5]; rfl
    · rw [e6, e5]; rfl
  · have v : 0 ≤ p.toInt ∧ p.toInt ≤ 255 := ⟨v0, v1⟩
    simp only [if_pos v, if_pos c] at h
    exact h m hm rfl rfl rfl rfl
  · simp only [if_neg v] at h
    exact h m hm rfl rfl rfl rfl
theorem s_wipe {m : CS} {Q : Int32 → CS → Prop} (hm : Mk m) (h : ∀ n, Mk n → n.1 14 = 0 → n.1 21 = m.1 21 → n.2.2 = m.2.2 → n.2.1 13 = m.2.1 13 → Q (m.1 14) n) : wp_X7_wipe m Q := by
  unfold wp_X7_wipe
  intro _ e1 s e2
  subst e1
  refine h s (Mk_fr hm (fun k q _ => ?_) ?_ ?_ (fun k q _ _ _ => ?_)) ?_ ?_ ?_ ?_ <;> rw [e2]
  · exact sI_ne q
  · rw [sI_eq]; decide
  · rw [sI_ne (by decide)]
    exact hm.2.2.2.2.2.2.2.2.1
  · rfl
  · exact sI_eq
  · exact sI_ne (by decide)
  · rfl
  · rfl
theorem s_rinse {m : CS} {Q : Int32 → CS → Prop} (hm : Mk m) (h : ∀ n, Mk n → n.1 14 = m.1 14 → n.1 21 = 0 → n.2.2 = m.2.2 → n.2.1 13 = m.2.1 13 → Q (m.1 21) n) : wp_X7_rinse m Q := by
  unfold wp_X7_rinse
  intro _ e1 s e2
  subst e1
  refine h s (Mk_fr hm (fun k _ q => ?_) ?_ ?_ (fun k q _ _ _ => ?_)) ?_ ?_ ?_ ?_ <;> rw [e2]
  · exact sI_ne q
  · rw [sI_ne (by decide)]
    exact hm.2.2.2.2.2.1
  · rw [sI_eq]; decide
  · rfl
  · exact sI_ne (by decide)
  · exact sI_eq
  · rfl
  · rfl
theorem s_seed {v : Int64} {m : CS} {Q : Int64 → CS → Prop} (hm : Mk m) (h : ∀ n, Mk n → n.1 14 = m.1 14 → n.1 21 = m.1 21 → n.2.2 = v → n.2.1 13 = m.2.1 13 → Q m.2.2 n) : wp_X7_seed v m Q := by
  unfold wp_X7_seed
  intro _ e1 s e2
  subst e1
  rw [e2]
  exact h _ (Mk_L _ hm) rfl rfl rfl rfl
def tsR (p n k t : Int32) : Int32 := if isC p then (if 0 ≤ n.toInt ∧ n.toInt ≤ 9 then (if 0 ≤ k.toInt ∧ k.toInt ≤ 1 then (if t = 6 then -4 else t + 1) else -2) else -2) else -1
def tsT (p n k t : Int32) : Int32 := if isC p then (if 0 ≤ n.toInt ∧ n.toInt ≤ 9 then (if 0 ≤ k.toInt ∧ k.toInt ≤ 1 then (if t = 6 then t else t + 1) else t) else t) else t
theorem s_taste {p q r : Int32} {m : CS} {Q : Int32 → CS → Prop} (hm : Mk m) (h : ∀ n, Mk n → n.1 14 = m.1 14 → n.1 21 = tsT p q r (m.1 21) → n.2.2 = m.2.2 → n.2.1 13 = m.2.1 13 → Q (tsR p q r (m.1 21)) n) : wp_X7_taste p q r m Q := by
  obtain ⟨l, hl⟩ := nat_of hm.2.2.2.2.2.2.2.2.1.1
  have hl6 := hm.2.2.2.2.2.2.2.2.1.2
  unfold wp_X7_taste
  unfold tsR tsT at h
  refine e_isCell (fun v => ⟨fun _ => ?_, fun c => absurd c (by decide)⟩) (fun v => ⟨fun c => absurd rfl c, fun _ => ?_⟩)
  · simp only [if_pos v] at h
    refine e_in3 0 9 rfl rfl (fun w0 w1 => ⟨fun c => absurd c (by decide), fun _ => ?_⟩) (fun w => ⟨fun _ => ?_, fun c => absurd rfl c⟩)
    · have w : 0 ≤ q.toInt ∧ q.toInt ≤ 9 := ⟨w0, w1⟩
      simp only [if_pos w] at h
      refine e_in3 0 1 rfl rfl (fun u0 u1 => ⟨fun _ => ⟨fun c => ?_, fun c => ?_⟩, fun c => absurd c (by decide)⟩) (fun u => ⟨fun c => absurd rfl c, fun _ => ?_⟩)
      · have l1 := lt_of_ne (n := 6) 6 rfl hl (by omega) c
        have u : 0 ≤ r.toInt ∧ r.toInt ≤ 1 := ⟨u0, u1⟩
        simp only [if_pos u, if_neg c] at h
        refine ⟨ti_in hl l1, ?_⟩
        intro s9 e9
        have f9 : s9.1 = m.1 := by rw [e9]; rfl
        refine ⟨by rw [f9]; exact ti_in hl l1, ?_⟩
        intro s11 e11
        have f11 : s11.1 = m.1 := by rw [e11]; exact f9
        refine ⟨by rw [f11]; exact ti_in hl l1, ?_⟩
        intro s13 e13 s14 e14
        have f13 : s13.1 = m.1 := by rw [e13]; exact f11
        have e21 : s14.1 21 = m.1 21 + 1 := by rw [e14, sI_eq, f13]
        have a1 := ti_add hl (by omega)
        have rw_ : ∀ k, ¬ k = 22 → ¬ k = 23 → ¬ k = 24 → s14.2.1 k = m.2.1 k := by
          intro k q1 q2 q3
          rw [e14]
          show s13.2.1 k = m.2.1 k
          rw [e13, sA_ne q3, e11, sA_ne q2, e9, sA_ne q1]
        rw [e21]
        refine h s14 (Mk_fr hm (fun k _ q => ?_) ?_ ?_ (fun k _ q1 q2 q3 => rw_ k q1 q2 q3)) ?_ e21 ?_ (rw_ 13 (by decide) (by decide) (by decide))
        · rw [e14, sI_ne q, f13]
        · rw [e14, sI_ne (by decide), f13]
          exact hm.2.2.2.2.2.1
        · rw [e21]; omega
        · rw [e14, sI_ne (by decide), f13]
        · rw [e14, e13, e11, e9]; rfl
      · have u : 0 ≤ r.toInt ∧ r.toInt ≤ 1 := ⟨u0, u1⟩
        simp only [if_pos u, if_pos c] at h
        exact h m hm rfl rfl rfl rfl
      · simp only [if_neg u] at h
        exact h m hm rfl rfl rfl rfl
    · simp only [if_neg w] at h
      exact h m hm rfl rfl rfl rfl
  · simp only [if_neg v] at h
    exact h m hm rfl rfl rfl rfl
