def ds (c e : Nat) : Nat := (c / 5 - e / 5) + (e / 5 - c / 5) + (c % 5 - e % 5) + (e % 5 - c % 5)
def gv (p q : Int32) : Int32 := Int32.ofInt ((ds p.toInt.toNat q.toInt.toNat + 1 : Nat) : Int)
def cb (p : Int32) : Int32 := (((p <<< ((5 : Int32) &&& 31)) ||| (p.toUInt32 >>> ((5 : Int32).toUInt32 &&& Int32.toUInt32 31)).toInt32) ||| ((p &&& (-541201 : Int32)) <<< ((1 : Int32) &&& 31)) ||| ((p &&& (-33826 : Int32)).toUInt32 >>> ((1 : Int32).toUInt32 &&& Int32.toUInt32 31)).toInt32) &&& (1048575 : Int32)
def mk (c i : Nat) : Nat := (List.range 20).foldl (fun a e => if ds c e < i then a + 2 ^ e else a) 0
theorem mk_step : ∀ c, c < 20 → ∀ i, i < 9 → Int32.ofNat (mk c i) ||| ((cb (Int32.ofNat (mk c i)) ||| ((1 : Int32) <<< (Int32.ofInt (c : Nat) &&& 31))) &&& 1048575) = Int32.ofNat (mk c (i + 1)) := by decide +kernel
theorem mk_mem : ∀ c, c < 20 → ∀ e, e < 20 → ∀ i, i < 9 → ((Int32.ofNat (mk c i) &&& ((1 : Int32) <<< (Int32.ofInt (e : Nat) &&& 31))) = 0 ↔ i < ds c e + 1) := by decide +kernel
theorem ds_le : ∀ c, c < 20 → ∀ e, e < 20 → ds c e ≤ 7 := by decide +kernel
theorem ds_tri : ∀ c, c < 20 → ∀ k, k < 20 → ∀ e, e < 20 → ds k e = 1 → ds c e ≤ ds c k + 1 := by decide +kernel
theorem ds_nbr : ∀ c, c < 20 → ∀ e, e < 20 → ¬ c = e → ∃ k, k < 20 ∧ ds k e = 1 ∧ ds c k + 1 = ds c e := by decide +kernel
theorem ds_self (k : Nat) : ds k k = 0 := by
  unfold ds
  omega
theorem e_flood0 {x : Int32} {Q : Int32 → Prop} (h : Q x) : wp_X2_flood x 0 Q := by
  unfold wp_X2_flood B_X2_flood_4
  refine LOOP_c 0 (fun _ z => z = ((0 : Int32), x, (0 : Int32))) _ rfl ?_
  intro i z G hi e hG
  change z = _ at e
  subst e
  change LB_X2_flood_4 G 0 x 0 Q
  unfold LB_X2_flood_4
  refine ⟨fun _ => h, fun _ => ?_⟩
  refine sf_X2_beside (fun r => ?_)
  intro x4 e
  rw [Int32.and_zero, Int32.or_zero] at e
  exact ⟨fun c => absurd e c, fun _ => h⟩
theorem x_gnaw {p q : Int32} {Z Y : Nat → Nat → Nat} {Q : Int32 → Prop} (h : Q (wayF p q (gv p q))) : wp_X6_gnaw p q Z Y S0 (a0 Y) Q := by
  unfold wp_X6_gnaw
  unfold wayF at h
  refine e_hasCell (fun a => ⟨fun c => absurd c (by decide), fun _ => ?_⟩) (fun a => ⟨fun _ => ?_, fun c => absurd rfl c⟩)
  · rw [if_pos a] at h
    refine e_hasCell (fun a2 => ⟨fun _ => ?_, fun c => absurd c (by decide)⟩) (fun a2 => ⟨fun c => absurd rfl c, fun _ => ?_⟩)
    · rw [if_pos a2] at h
      refine e_openCells S0w S0e (e_softPaste S0w S0e rfl ?_)
      unfold wp_X2_fewestGnawed
      refine ⟨fun c => ?_, fun c => ?_⟩
      · rw [if_neg c] at h
        refine e_bitOf a2 (e_bitOf a ?_)
        intro _ e
        rw [Int32.and_zero] at e
        subst e
        obtain ⟨k, hk, hk2, hk3⟩ := isC_n a
        obtain ⟨j, hj, hj2, hj3⟩ := isC_n a2
        have hd := ds_le k hk j hj
        have hgv : gv p q = Int32.ofInt ((ds k j + 1 : Nat) : Int) := by
          unfold gv
          rw [hk2, hj2]
          rfl
        unfold B_X2_fewestGnawed_24
        refine LOOP_c (ds k j + 1) (fun i z => z.1 = p ∧ z.2.1 = 0 ∧ z.2.2.1 = 1048575 ∧ z.2.2.2.1 = ((1 : Int32) <<< (q &&& 31)) ∧ z.2.2.2.2.1 = Int32.ofNat (mk k i) ∧ z.2.2.2.2.2.toInt = (i : Int)) _ ⟨rfl, rfl, rfl, rfl, ?_, rfl⟩ ?_
        · have : ∀ k, k < 20 → (0 : Int32) = Int32.ofNat (mk k 0) := by decide +kernel
          exact this k hk
        rintro i ⟨x0, x2, x3, x4, x5, x6⟩ G hi ⟨k1, k2, k3, k4, k5, k6⟩ hG
        change LB_X2_fewestGnawed_24 G x0 x2 x3 x4 x5 x6 Q
        dsimp only at k1 k2 k3 k4 k5 k6
        subst k1; subst k2; subst k3; subst k4; subst k5
        unfold LB_X2_fewestGnawed_24
        refine ⟨fun c2 => ?_, fun c2 => ?_⟩
        · rw [ti_gt (m := 20) k6 rfl] at c2
          omega
        refine e_flood0 ?_
        have hm := mk_mem k hk j hj i (by omega)
        rw [← hj3] at hm
        rw [hm]
        refine ⟨fun c3 => ?_, fun c3 => ?_⟩
        · unfold wp_X2_beside
          intro _ e1 _ e2 _ e3
          refine e_bitOf a ?_
          intro x5 e5 _ e6
          subst e1; subst e2; subst e3
          subst e6
          refine hG _ (by omega) ⟨rfl, rfl, rfl, rfl, ?_, ti_add k6 (by omega)⟩
          show x5 = _
          rw [e5, ← mk_step k hk i (by omega), ← hk3]
          rfl
        · have e : i = ds k j + 1 := by omega
          subst e
          rw [hgv] at h
          rw [ti_of k6]
          exact h
      · rw [if_pos c] at h
        exact h
    · rw [if_neg a2] at h
      exact h
  · rw [if_neg a] at h
    exact h
