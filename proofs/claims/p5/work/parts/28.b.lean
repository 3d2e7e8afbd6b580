def Aok (Y : Nat → Nat → Nat) (a : AS) : Prop := ∀ i, i < 14 → ∃ k, k < 14 ∧ a.2.1 i = some (Y k 0)
theorem Aok_0 (Y : Nat → Nat → Nat) : Aok Y (a0 Y) := fun i hi => ⟨i, hi, rfl⟩
theorem Aok_set {Y : Nat → Nat → Nat} {a : AS} (ha : Aok Y a) (j k : Nat) (hk : k < 14) {c : CS} {w : Nat → CS} : Aok Y (c, va_up a.2.1 j (some (Y k 0)), w) := by
  intro i hi
  by_cases h : i = j
  · exact ⟨k, hk, by subst h; simp [va_up]⟩
  · obtain ⟨k2, h2, h3⟩ := ha i hi
    exact ⟨k2, h2, by simp only [va_up, if_neg h]; exact h3⟩
theorem Aok_same {Y : Nat → Nat → Nat} {a : AS} (ha : Aok Y a) {c : CS} {w : Nat → CS} : Aok Y (c, a.2.1, w) := ha
theorem l_14 : (14 : Int32).toInt = (14 : Nat) := by decide
theorem clamp_lt {x : Int32} {n : Nat} (h : vp_in x n) : x.toNatClampNeg < n := by
  rw [vp_in_iff] at h
  rw [← Int32.toNat_toInt]
  omega
theorem sf_X0_forgetAll {Y : Nat → Nat → Nat} {a : AS} {Q : AS → Prop} (ha : Aok Y a) (h : ∀ a', Aok Y a' → Q a') : wp_X0_forgetAll Y a Q := by
  unfold wp_X0_forgetAll
  intro a1 e1
  subst e1
  exact h _ (Aok_same ha)
theorem sf_X0_wheelAt {p0 : Int32} {Y : Nat → Nat → Nat} {a : AS} {Q : Option Nat → Prop} (ha : Aok Y a) (h0 : Q none) (h1 : ∀ k, k < 14 → Q (some (Y k 0))) : wp_X0_wheelAt p0 Y a Q := by
  unfold wp_X0_wheelAt B_X0_wheelAt_19
  refine ⟨fun _ => h0, fun c1 => ⟨fun _ => h0, fun c2 => ?_⟩⟩
  have hv := vin_ok2 (14 : Int32) l_14 c1 c2
  obtain ⟨k, hk, he⟩ := ha _ (clamp_lt hv)
  exact ⟨hv, k, he, h1 k hk⟩
theorem sf_X0_forgetFirst {Y : Nat → Nat → Nat} {a : AS} {Q : AS → Prop} (ha : Aok Y a) (h : ∀ a', Aok Y a' → Q a') : wp_X0_forgetFirst Y a Q := by
  unfold wp_X0_forgetFirst
  have hv : vp_in (0 : Int32) 14 := by unfold vp_in; decide
  obtain ⟨k, hk, he⟩ := ha _ (clamp_lt hv)
  refine ⟨hv, k, he, ?_⟩
  unfold B_X0_forgetFirst_9
  refine LOOP_m (fun z => z.1 < 14 ∧ 1 ≤ z.2.1.toInt ∧ Aok Y z.2.2) (fun z => ((14 : Int32).toInt - z.2.1.toInt).toNat) _ ⟨hk, (show (1 : Int) ≤ (1 : Int32).toInt by decide), ha⟩ ?_
  rintro ⟨x1, x2, b⟩ G ⟨h1, h2, h3⟩ hG
  change LB_X0_forgetFirst_9 G Y x1 x2 b Q
  dsimp only at h1 h2 h3
  unfold LB_X0_forgetFirst_9
  refine ⟨fun c => ?_, fun c => ?_⟩
  · refine ⟨by unfold vp_in; decide, h1, ?_⟩
    intro a4 e4
    subst e4
    intro a5 e5
    subst e5
    have h9 : Aok Y (b.1, va_up b.2.1 (13 : Int32).toNatClampNeg (some (Y x1 0)), b.2.2) := Aok_set h3 _ _ h1
    exact h _ h9
  · have hv := vin_ok (14 : Int32) l_14 (by omega) c
    obtain ⟨k7, hk7, he7⟩ := h3 _ (clamp_lt hv)
    have hc := c
    rw [Int32.le_iff_toInt_le, l_14] at hc
    have e1 : (x2 - 1).toInt = x2.toInt - 1 := by
      rw [Int32.toInt_sub, show (1 : Int32).toInt = 1 from rfl]
      rw [Int.bmod_eq_of_le (by omega) (by omega)]
    refine ⟨hv, k7, he7, ?_, hk7, ?_⟩
    · rw [vp_in_iff, e1]; omega
    · intro a10 e10
      subst e10
      intro x3 e3
      subst e3
      have st := step_ok (M := 14) (by omega) c
      have e2 : (x2 + 1).toInt = x2.toInt + 1 := by
        rw [Int32.toInt_add, show (1 : Int32).toInt = 1 from rfl]
        rw [Int.bmod_eq_of_le (by omega) (by omega)]
      refine hG _ ⟨h1, ?_, Aok_set h3 _ _ hk7⟩ st.2
      show 1 ≤ (x2 + 1).toInt
      rw [e2]; omega
theorem sf_X0_remember {Y : Nat → Nat → Nat} {a : AS} {s1 : CS} {Q : AS → CS → Prop} (ha : Aok Y a) (h : ∀ a', Aok Y a' → Q a' s1) : wp_X0_remember Y a s1 Q := by
  have key : ∀ b, Aok Y b → B_X0_remember_13 Y b s1 Q := by
    intro b hb
    unfold B_X0_remember_13
    refine sf_X0_wheelAt hb (Or.inl ⟨rfl, h _ hb⟩) (fun k hk => Or.inr ⟨k, rfl, hk, ?_⟩)
    unfold wp_X5_copyFrom
    intro _ e1; subst e1
    intro _ e1; subst e1
    intro _ e1; subst e1
    intro _ e1; subst e1
    intro _ e1; subst e1
    intro _ e1; subst e1
    intro _ e1; subst e1
    intro _ e1; subst e1
    exact h _ (Aok_same hb)
  unfold wp_X0_remember
  exact ⟨fun _ => key a ha, fun _ => sf_X0_forgetFirst ha (fun b hb => key b hb)⟩
theorem sf_X0_takeBack {Y : Nat → Nat → Nat} {a : AS} {s1 : CS} {Q : AS → CS → Prop} (ha : Aok Y a) (h : ∀ a' s', Aok Y a' → Q a' s') : wp_X0_takeBack Y a s1 Q := by
  unfold wp_X0_takeBack
  refine sf_X0_wheelAt ha (Or.inl ⟨rfl, h _ _ ha⟩) (fun k hk => Or.inr ⟨k, rfl, hk, ?_⟩)
  unfold wp_X5_copyFrom
  intro _ e1; subst e1
  intro _ e1; subst e1
  intro _ e1; subst e1
  intro _ e1; subst e1
  intro _ e1; subst e1
  intro _ e1; subst e1
  intro _ e1; subst e1
  intro _ e1; subst e1
  exact h _ _ (Aok_same ha)
