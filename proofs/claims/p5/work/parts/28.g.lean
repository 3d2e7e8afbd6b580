def Mt (m : CS) : Prop := m.1 0 = 0 ∧ m.1 1 = 0 ∧ ∀ i, i < 20 → m.2.1 5 (35 + i) = 7
theorem e_noOwnerM {p : Int32} {m : CS} {Q : Int32 → Prop} (hm : m.1 0 = 0) (h : Q 0) : wp_X7_isOwner p m Q := by
  unfold wp_X7_isOwner
  rw [hm]
  exact e_in3 0 (-1) rfl (by decide) (fun a b => by omega) (fun _ => ⟨rfl, h⟩)
theorem e_noHoleM {p : Int32} {m : CS} {Q : Int32 → Prop} (hm : m.1 1 = 0) (h : Q 0) : wp_X7_isHole p m Q := by
  unfold wp_X7_isHole
  rw [hm]
  exact e_in3 0 (-1) rfl (by decide) (fun a b => by omega) (fun _ => ⟨rfl, h⟩)
theorem e_wed {l : Int32} {m : CS} {Q : Int32 → CS → Prop} (hm : m.1 1 = 0) (h : Q 0 m) : wp_X7_wed l m Q := by
  unfold wp_X7_wed B_X7_wed_2
  refine LOOP_c 0 (fun _ z => z = (l, (0 : Int32), m)) _ rfl ?_
  intro i z G hi e hG
  change z = _ at e
  subst e
  change LB_X7_wed_2 G l 0 m Q
  unfold LB_X7_wed_2
  rw [hm]
  exact ⟨fun _ => h, fun c => absurd (show (0 : Int32) ≤ 0 by decide) c⟩
theorem e_passOn {l : Int32} {L : Nat} {m : CS} {Q : Int32 → CS → Prop} (hl : l.toInt = L) (hL : L ≤ 1) (hm : m.1 1 = 0) (h : ∀ m' : CS, m'.1 = m.1 → (Mt m → Mt m') → m'.2.2 = m.2.2 → Q 0 m') : wp_X7_passOn l m Q := by
  unfold wp_X7_passOn
  intro x2 e2
  have hx2 : x2.toInt = ((35 * L : Nat) : Int) := by
    rcases (show L = 0 ∨ L = 1 by omega) with e | e
    · subst e
      have := ti_of hl
      subst this
      subst e2
      decide
    · subst e
      have := ti_of hl
      subst this
      subst e2
      decide
  have h34 : (x2 + 34).toInt = ((35 * L + 34 : Nat) : Int) := ti_add2 hx2 (show (34 : Int32).toInt = ((34 : Nat) : Int) from rfl) (by omega)
  unfold B_X7_passOn_7
  refine LOOP_c 0 (fun _ z => z = (l, x2, (0 : Int32), m)) _ rfl ?_
  intro i z G hi e hG
  change z = _ at e
  subst e
  change LB_X7_passOn_7 G l x2 0 m Q
  unfold LB_X7_passOn_7
  refine ⟨fun _ => ?_, fun c => absurd (show m.1 1 ≤ 0 by rw [hm]; decide) c⟩
  have h80 : B_X7_passOn_80 l x2 0 0 m Q := by
    unfold B_X7_passOn_80
    refine LOOP_c 0 (fun _ z => z = (l, x2, (0 : Int32), (0 : Int32), m)) _ rfl ?_
    intro i z G hi e hG
    change z = _ at e
    subst e
    change LB_X7_passOn_80 G l x2 0 0 m Q
    unfold LB_X7_passOn_80
    refine ⟨fun _ => ⟨ti_in h34 (by omega), ti_in h34 (by omega), ?_⟩, fun c => absurd (show m.1 1 ≤ 0 by rw [hm]; decide) c⟩
    intro _ e
    subst e
    refine h _ rfl (fun k => ⟨k.1, k.2.1, fun i hi => ?_⟩) rfl
    rw [sA_get, ti_cl h34, if_neg (by omega)]
    exact k.2.2 i hi
  unfold B_X7_passOn_58
  refine LOOP_c 0 (fun _ z => z = (l, x2, (0 : Int32), m)) _ rfl ?_
  intro i z G hi e hG
  change z = _ at e
  subst e
  change LB_X7_passOn_58 G l x2 0 m Q
  unfold LB_X7_passOn_58
  refine ⟨fun _ => ?_, fun _ => e_wed hm ⟨fun _ => ?_, fun c => absurd rfl c⟩⟩
  · exact h80
  · exact h80
theorem e_layTrial {m : CS} {Q : CS → Prop} (hm : ∀ i, i < 20 → m.2.1 5 i = 7) (h : ∀ m' : CS, m'.1 = m.1 → m'.2.2 = m.2.2 → (∀ i, i < 20 → m'.2.1 5 (35 + i) = 7) → Q m') : wp_X7_layTrial m Q := by
  unfold wp_X7_layTrial B_X7_layTrial_2
  refine LOOP_c 35 (fun i z => z.1.toInt = (i : Int) ∧ z.2.1 = m.1 ∧ z.2.2.2 = m.2.2 ∧ (∀ k, k < 20 → z.2.2.1 5 k = 7) ∧ ∀ k, k < 20 → k < i → z.2.2.1 5 (35 + k) = 7) _ ⟨rfl, rfl, rfl, hm, fun k _ h => by omega⟩ ?_
  rintro i ⟨x1, s⟩ G hi ⟨k1, k2, k3, k4, k5⟩ hG
  change LB_X7_layTrial_2 G x1 s Q
  dsimp only at k1 k2 k3 k4 k5
  unfold LB_X7_layTrial_2
  refine ⟨fun c => ?_, fun c => ?_⟩
  · have c1 : 35 ≤ i := by rw [ti_ge (m := 35) k1 rfl] at c; omega
    exact h s k2 k3 (fun k hk => k5 k hk (by omega))
  have c1 : i < 35 := by rw [ti_ge (m := 35) k1 rfl] at c; omega
  have h35 : ((35 : Int32) + x1).toInt = ((35 + i : Nat) : Int) := ti_add2 (show (35 : Int32).toInt = ((35 : Nat) : Int) from rfl) k1 (by omega)
  refine ⟨ti_in k1 (by omega), ti_in h35 (by omega), ?_⟩
  intro _ e _ e2
  subst e; subst e2
  refine hG _ c1 ⟨ti_add k1 (by omega), k2, k3, fun k hk => ?_, fun k hk hk2 => ?_⟩
  · show (sA s 5 _ _).2.1 5 k = 7
    rw [sA_get, ti_cl h35, if_neg (by omega)]
    exact k4 k hk
  · show (sA s 5 _ _).2.1 5 (35 + k) = 7
    rw [sA_get, ti_cl h35, ti_cl k1]
    by_cases e : k = i
    · rw [if_pos (by omega), ← e]
      exact k4 k hk
    · rw [if_neg (by omega)]
      exact k5 k hk (by omega)
theorem of_step : ∀ i, i < 20 → Int32.ofNat (2 ^ i - 1) ||| ((1 : Int32) <<< (Int32.ofInt (i : Nat) &&& 31)) = Int32.ofNat (2 ^ (i + 1) - 1) := by decide +kernel
theorem ti_35 {l x : Int32} {L i : Nat} (hl : l.toInt = L) (hL : L ≤ 1) (hx : x.toInt = i) (hi : i < 35) : ((35 : Int32) * l + x).toInt = ((35 * L + i : Nat) : Int) := by
  have h1 : ((35 : Int32) * l).toInt = ((35 * L : Nat) : Int) := by
    have e := ti_of hl
    subst e
    rcases (show L = 0 ∨ L = 1 by omega) with e | e <;> subst e <;> decide
  exact ti_add2 h1 hx (by omega)
theorem e_of7 {l : Int32} {L : Nat} {m : CS} {Q : Int32 → Prop} (hl : l.toInt = L) (hL : L ≤ 1) (hm : ∀ i, i < 20 → m.2.1 5 (35 * L + i) = 7) (h : Q 1048575) : wp_X7_of l 7 m Q := by
  unfold wp_X7_of B_X7_of_5
  refine LOOP_c 20 (fun i z => z.1 = l ∧ z.2.1 = 7 ∧ z.2.2.1 = Int32.ofNat (2 ^ i - 1) ∧ z.2.2.2.toInt = (i : Int)) _ ⟨rfl, rfl, rfl, rfl⟩ ?_
  rintro i ⟨x1, x2, x3, x4⟩ G hi ⟨k1, k2, k3, k4⟩ hG
  change LB_X7_of_5 G m x1 x2 x3 x4 Q
  dsimp only at k1 k2 k3 k4
  subst k1; subst k2
  unfold LB_X7_of_5
  refine ⟨fun c => ?_, fun c => ?_⟩
  · have c1 : i = 20 := by rw [ti_ge (m := 20) k4 rfl] at c; omega
    subst c1
    subst k3
    exact h
  have c1 : i < 20 := by rw [ti_ge (m := 20) k4 rfl] at c; omega
  have h35 := ti_35 hl hL k4 (by omega)
  refine ⟨ti_in h35 (by omega), fun c2 => absurd ?_ c2, fun _ => ?_⟩
  · rw [ti_cl h35]
    exact hm i c1
  · unfold B_X7_of_37
    intro _ e _ e2
    subst e; subst e2
    refine hG _ c1 ⟨rfl, rfl, ?_, ti_add k4 (by omega)⟩
    show x3 ||| ((1 : Int32) <<< (x4 &&& 31)) = _
    rw [k3, ti_of k4]
    exact of_step i c1
theorem e_ofz {l q : Int32} {L : Nat} {m : CS} {Q : Int32 → Prop} (hl : l.toInt = L) (hL : L ≤ 1) (hm : ∀ i, i < 20 → m.2.1 5 (35 * L + i) = 7) (hq : ¬ (7 : Int32) = q) (h : Q 0) : wp_X7_of l q m Q := by
  unfold wp_X7_of B_X7_of_5
  refine LOOP_c 20 (fun i z => z.1 = l ∧ z.2.1 = q ∧ z.2.2.1 = 0 ∧ z.2.2.2.toInt = (i : Int)) _ ⟨rfl, rfl, rfl, rfl⟩ ?_
  rintro i ⟨x1, x2, x3, x4⟩ G hi ⟨k1, k2, k3, k4⟩ hG
  change LB_X7_of_5 G m x1 x2 x3 x4 Q
  dsimp only at k1 k2 k3 k4
  subst k1; subst k2; subst k3
  unfold LB_X7_of_5
  refine ⟨fun c => h, fun c => ?_⟩
  have c1 : i < 20 := by rw [ti_ge (m := 20) k4 rfl] at c; omega
  have h35 := ti_35 hl hL k4 (by omega)
  refine ⟨ti_in h35 (by omega), fun c2 => ?_, fun c2 => absurd ?_ hq⟩
  · unfold B_X7_of_37
    intro _ e _ e2
    subst e; subst e2
    exact hG _ c1 ⟨rfl, rfl, rfl, ti_add k4 (by omega)⟩
  · rw [ti_cl h35, hm i c1] at c2
    exact c2
theorem e_alive {l : Int32} {m : CS} {Q : Int32 → Prop} (hm : m.1 1 = 0) (h : Q 0) : wp_X7_alive l m Q := by
  unfold wp_X7_alive B_X7_alive_4
  refine LOOP_c 0 (fun _ z => z = (l, (0 : Int32), (0 : Int32))) _ rfl ?_
  intro i z G hi e hG
  change z = _ at e
  subst e
  change LB_X7_alive_4 G m l 0 0 Q
  unfold LB_X7_alive_4
  exact ⟨fun _ => h, fun c => absurd (show m.1 1 ≤ 0 by rw [hm]; decide) c⟩
theorem ones_step : ∀ i, i < 20 → Int32.ofNat i + (((1048575 : Int32) >>> (Int32.ofInt (i : Nat) &&& 31)) &&& 1) = Int32.ofNat (i + 1) := by decide +kernel
theorem e_ones20 {Q : Int32 → Prop} (h : Q 20) : wp_X7_ones 1048575 Q := by
  unfold wp_X7_ones B_X7_ones_4
  refine LOOP_c 20 (fun i z => z.1 = 1048575 ∧ z.2.1 = Int32.ofNat i ∧ z.2.2.toInt = (i : Int)) _ ⟨rfl, rfl, rfl⟩ ?_
  rintro i ⟨x1, x2, x3⟩ G hi ⟨k1, k2, k3⟩ hG
  change LB_X7_ones_4 G x1 x2 x3 Q
  dsimp only at k1 k2 k3
  subst k1
  unfold LB_X7_ones_4
  refine ⟨fun c => ?_, fun c => ?_⟩
  · have c1 : i = 20 := by rw [ti_ge (m := 20) k3 rfl] at c; omega
    subst c1
    subst k2
    exact h
  have c1 : i < 20 := by rw [ti_ge (m := 20) k3 rfl] at c; omega
  intro _ e _ e2
  subst e; subst e2
  refine hG _ c1 ⟨rfl, ?_, ti_add k3 (by omega)⟩
  show x2 + (((1048575 : Int32) >>> (x3 &&& 31)) &&& 1) = _
  rw [k2, ti_of k3]
  exact ones_step i c1
theorem z_shr : ∀ i, i < 20 → ((0 : Int32) >>> (Int32.ofInt (i : Nat) &&& 31)) &&& 1 = 0 := by decide +kernel
theorem e_stepsBy0 {p q : Int32} {Q : Int32 → Prop} (hq : isC q) (h : Q (-9)) : wp_X7_stepsBy p q 0 Q := by
  unfold wp_X7_stepsBy
  intro _ e
  rw [Int32.and_zero] at e
  subst e
  unfold B_X7_stepsBy_9
  refine LOOP_c 20 (fun i z => z.1 = q ∧ z.2.1 = 0 ∧ z.2.2.1 = 0 ∧ z.2.2.2.toInt = (i : Int)) _ ⟨rfl, rfl, rfl, rfl⟩ ?_
  rintro i ⟨x1, x2, x3, x4⟩ G hi ⟨k1, k2, k3, k4⟩ hG
  change LB_X7_stepsBy_9 G x1 x2 x3 x4 Q
  dsimp only at k1 k2 k3 k4
  subst k1; subst k2; subst k3
  unfold LB_X7_stepsBy_9
  refine ⟨fun c => h, fun c => ?_⟩
  have c1 : i < 20 := by rw [ti_ge (m := 20) k4 rfl] at c; omega
  obtain ⟨k, hk, hk2, hk3⟩ := isC_n hq
  unfold wp_X7_has
  rw [hk3, z_shr k hk]
  refine ⟨fun _ => ⟨fun _ => ?_, fun c => absurd rfl c⟩, fun c => absurd c (by decide)⟩
  refine sf_X7_beside (fun r => ?_)
  intro _ e _ e2
  rw [Int32.and_zero] at e
  subst e; subst e2
  exact hG _ c1 ⟨hk3.symm, rfl, rfl, ti_add k4 (by omega)⟩
theorem e_keepAct {m : CS} {Q : CS → Prop} (hm : m.1 18 = 0) (h : ∀ m' : CS, m'.1 1 = m.1 1 → Q m') : wp_X7_keepAct m Q := by
  unfold wp_X7_keepAct B_X7_keepAct_2
  refine LOOP_c 35 (fun i z => z.1.toInt = (i : Int) ∧ z.2.1 = m.1) _ ⟨rfl, rfl⟩ ?_
  rintro i ⟨x1, s⟩ G hi ⟨k1, k2⟩ hG
  change LB_X7_keepAct_2 G x1 s Q
  dsimp only at k1 k2
  unfold LB_X7_keepAct_2
  refine ⟨fun c => ?_, fun c => ?_⟩
  · intro _ e
    subst e
    unfold B_X7_keepAct_68
    refine ⟨fun _ => ?_, fun _ => ?_⟩ <;> intro _ e <;> subst e <;> refine h _ ?_ <;> show s.1 1 = m.1 1 <;> rw [k2]
  have c1 : i < 35 := by rw [ti_ge (m := 35) k1 rfl] at c; omega
  have h0 : ((35 : Int32) * (s.1 18) + x1).toInt = ((35 * 0 + i : Nat) : Int) := by
    rw [k2, hm]
    exact ti_35 (l := 0) (L := 0) rfl (by omega) k1 c1
  refine ⟨ti_in k1 (by omega), ti_in h0 (by omega), ?_⟩
  intro _ e _ e2
  subst e; subst e2
  exact hG _ c1 ⟨ti_add k1 (by omega), k2⟩
