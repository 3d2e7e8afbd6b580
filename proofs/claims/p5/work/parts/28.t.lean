def sm (f : Nat → Nat) : Nat → Nat
  | 0 => 0
  | n + 1 => sm f n + f n
theorem sm_eq {f g : Nat → Nat} {n : Nat} (h : ∀ i, i < n → g i = f i) : sm g n = sm f n := by
  induction n with
  | zero => rfl
  | succ n ih =>
    unfold sm
    rw [ih (fun i hi => h i (by omega)), h n (by omega)]
theorem sm_one {f g : Nat → Nat} {n e : Nat} (he : e < n) (h : ∀ i, i < n → ¬ i = e → g i = f i) : sm g n + f e = sm f n + g e := by
  induction n with
  | zero => omega
  | succ n ih =>
    unfold sm
    by_cases q : e = n
    · subst q
      rw [sm_eq (fun i hi => h i (by omega) (by omega))]
      omega
    · have := ih (by omega) (fun i hi hn => h i (by omega) hn)
      rw [h n (by omega) (fun e2 => q e2.symm)]
      omega
theorem sm_le {f : Nat → Nat} {n : Nat} (h : ∀ i, i < n → f i ≤ 1) : sm f n ≤ n := by
  induction n with
  | zero => exact Nat.le_refl 0
  | succ n ih =>
    unfold sm
    have := ih (fun i hi => h i (by omega))
    have := h n (by omega)
    omega
def vl (v : Int32) : Nat := if v = -9 then 21 else v.toInt.toNat
def ct (v : Int32) : Nat := if v = -9 then 0 else 1
def mu (g : FA) : Nat := sm (fun i => vl (g i)) 20
def cn (g : FA) : Nat := sm (fun i => ct (g i)) 20
theorem cn_le (g : FA) : cn g ≤ 20 := sm_le (fun i _ => by unfold ct; split <;> omega)
def Gw (g : FA) : Prop := ∀ e, e < 20 → g e = -9 ∨ (0 ≤ (g e).toInt ∧ (g e).toInt ≤ (cn g : Int))
theorem Gw_up {g g2 : FA} {e k : Nat} {v c : Int32} (hg : Gw g) (he : e < 20) (hk : k < 20) (gk : ¬ g k = -9) (hc : c = 0 ∨ c = 1) (hv : v = g k + c) (hcond : g e = -9 ∨ ¬ (g e).toInt ≤ (g k + c).toInt) (hup : ∀ j, g2 j = if j = e then v else g j) : Gw g2 ∧ mu g2 < mu g := by
  have ik := (hg k hk).resolve_left gk
  have cle := cn_le g
  have hs : (g k + c).toInt = (g k).toInt + c.toInt := by
    have : c.toInt = 0 ∨ c.toInt = 1 := by rcases hc with e | e <;> subst e <;> decide
    rw [Int32.toInt_add, Int.bmod_eq_of_le (by omega) (by omega)]
  have hc2 : 0 ≤ c.toInt ∧ c.toInt ≤ 1 := by rcases hc with e | e <;> subst e <;> decide
  have hvi : v.toInt = (g k).toInt + c.toInt := by rw [hv, hs]
  have v9 : ¬ v = -9 := by
    intro e9
    rw [e9, n9] at hvi
    omega
  have c1 := sm_one (f := fun i => ct (g i)) (g := fun i => ct (g2 i)) he (fun i _ hn => by rw [hup, if_neg hn])
  have m1 := sm_one (f := fun i => vl (g i)) (g := fun i => vl (g2 i)) he (fun i _ hn => by rw [hup, if_neg hn])
  have g2e : g2 e = v := by rw [hup, if_pos rfl]
  have ctv : ct (g2 e) = 1 := by rw [g2e]; exact if_neg v9
  have vlv : vl (g2 e) = v.toInt.toNat := by rw [g2e]; exact if_neg v9
  change cn g2 + ct (g e) = cn g + ct (g2 e) at c1
  change mu g2 + vl (g e) = mu g + vl (g2 e) at m1
  rw [ctv] at c1
  rw [vlv] at m1
  have cle2 := cn_le g2
  by_cases q : g e = -9
  · have t1 : ct (g e) = 0 := if_pos q
    have t2 : vl (g e) = 21 := if_pos q
    rw [t1] at c1
    rw [t2] at m1
    refine ⟨fun j hj => ?_, by omega⟩
    rw [hup]
    by_cases w : j = e
    · rw [if_pos w]
      exact Or.inr (by omega)
    · rw [if_neg w]
      rcases hg j hj with a | a
      · exact Or.inl a
      · exact Or.inr (by omega)
  · have t1 : ct (g e) = 1 := if_neg q
    have t2 : vl (g e) = (g e).toInt.toNat := if_neg q
    have ie := (hg e he).resolve_left q
    have hlt := hcond.resolve_left q
    rw [hs] at hlt
    rw [t1] at c1
    rw [t2] at m1
    refine ⟨fun j hj => ?_, by omega⟩
    rw [hup]
    by_cases w : j = e
    · rw [if_pos w]
      exact Or.inr (by omega)
    · rw [if_neg w]
      rcases hg j hj with a | a
      · exact Or.inl a
      · exact Or.inr (by omega)
def cF (s : CS) (k : Nat) : Int32 := if s.2.1 5 k = 7 then (if s.2.1 3 (k / 5) = -9 then 1 else if s.2.1 2 (s.2.1 3 (k / 5)).toNatClampNeg = 1 then -9 else 1) else 0
theorem cF_v (s : CS) (k : Nat) : cF s k = -9 ∨ cF s k = 0 ∨ cF s k = 1 := by
  unfold cF
  split
  · split
    · exact Or.inr (Or.inr rfl)
    · split
      · exact Or.inl rfl
      · exact Or.inr (Or.inr rfl)
  · exact Or.inr (Or.inl rfl)
theorem s_cost {x : Int32} {k : Nat} {s : CS} {Q : Int32 → Prop} (hx : x.toInt = k) (hk : k < 20) (hs : Mk s) (h : Q (cF s k)) : wp_X7_costOf x s Q := by
  unfold wp_X7_costOf
  rw [ti_cl hx]
  unfold cF at h
  refine ⟨ti_in hx (by omega), fun c => ?_, fun c => ?_⟩
  · rw [if_pos c] at h
    unfold wp_X7_isMonks
    have h5 : (x / 5).toInt = ((k / 5 : Nat) : Int) := ti_div hx (show (5 : Int32).toInt = ((5 : Nat) : Int) from rfl)
    refine ⟨ti_in h5 (by omega), ?_⟩
    intro x2 e
    rw [ti_cl h5] at e
    have ho := hs.2.2.1 (k / 5) (by omega)
    rw [← e] at ho h
    refine ⟨fun c2 => ⟨fun _ => ?_, fun c => absurd rfl c⟩, fun c2 => ?_⟩
    · rw [if_pos c2] at h
      exact h
    · obtain ⟨j, hj, hj2⟩ := Ow_in ho c2
      rw [if_neg c2] at h
      refine ⟨ti_in hj2 hj, fun c3 => ⟨fun _ => ?_, fun c => absurd rfl c⟩, fun c3 => ⟨fun c => absurd c (by decide), fun _ => ?_⟩⟩
      · rw [if_neg c3] at h
        exact h
      · rw [if_pos c3] at h
        exact h
  · rw [if_neg c] at h
    exact h
def Ng (m s : CS) : Prop := s.1 = m.1 ∧ s.2.2 = m.2.2 ∧ ∀ k, ¬ k = 20 → s.2.1 k = m.2.1 k
theorem Ng_A {m s : CS} {i : Nat} {v : Int32} (h : Ng m s) : Ng m (sA s 20 i v) := ⟨h.1, h.2.1, fun k hk => by rw [sA_ne hk]; exact h.2.2 k hk⟩
theorem Ng_M {m s : CS} (hm : Mk m) (h : Ng m s) : Mk s := by
  obtain ⟨a1, a2, a3, a4, a5, a6, a7, a8, a9, a10⟩ := hm
  unfold Rd at a5
  unfold Mk Rd
  rw [h.1, h.2.2 3 (by decide), h.2.2 5 (by decide), h.2.2 7 (by decide), h.2.2 8 (by decide), h.2.2 19 (by decide), h.2.2 27 (by decide)]
  exact ⟨a1, a2, a3, a4, a5, a6, a7, a8, a9, a10⟩
theorem s_ease {f : FA → Nat} (hf : ∀ g, f g = mu g) {k : Nat} {p : Int32} {m s0 : CS} {Q : Int32 → CS → Prop} (hm : Mk m) (hk : k < 20) (hp : p.toInt = k) (hn0 : Ng m s0) (hg0 : Gw (s0.2.1 20)) (h : ∀ r s, (r = 0 ∨ r = 1) → Ng m s → Gw (s.2.1 20) → f (s.2.1 20) ≤ f (s0.2.1 20) → (¬ r = 0 → f (s.2.1 20) < f (s0.2.1 20)) → Q r s) : wp_X7_ease p s0 Q := by
  obtain ⟨M0, hM0⟩ : ∃ M : Nat, f (s0.2.1 20) = M := ⟨_, rfl⟩
  rw [hM0] at h
  unfold wp_X7_ease B_X7_ease_4
  refine LOOP_c 20 (fun e z => z.1 = p ∧ z.2.2.1.toInt = (e : Int) ∧ (z.2.1 = 0 ∨ z.2.1 = 1) ∧ Ng m z.2.2.2 ∧ Gw (z.2.2.2.2.1 20) ∧ ∃ M : Nat, f (z.2.2.2.2.1 20) = M ∧ M ≤ M0 ∧ (¬ z.2.1 = 0 → M < M0)) _ ⟨rfl, rfl, Or.inl rfl, hn0, hg0, M0, hM0, Nat.le_refl M0, fun c => absurd rfl c⟩ ?_
  rintro e ⟨x1, x2, x3, s⟩ G hi ⟨k1, k2, k3, k4, k5, M, kM, k6, k7⟩ hG
  change LB_X7_ease_4 G x1 x2 x3 s Q
  dsimp only at k1 k2 k3 k4 k5 kM k6 k7
  subst k1
  have ms := Ng_M hm k4
  unfold LB_X7_ease_4
  refine ⟨fun _ => ⟨nar_ok k3, h _ _ k3 k4 k5 (by rw [kM]; exact k6) (fun c => by rw [kM]; exact k7 c)⟩, fun c1 => ?_⟩
  have he : e < 20 := by rw [ti_ge (m := 20) k2 rfl] at c1; omega
  have skip : B_X7_ease_108 G x1 x2 x3 s Q := by
    unfold B_X7_ease_108
    intro _ e1
    subst e1
    exact hG _ he ⟨rfl, ti_add k2 (by omega), k3, k4, k5, M, kM, k6, k7⟩
  have sk0 : B_X7_ease_48 G x1 x2 x3 s Q := by
    unfold B_X7_ease_48 B_X7_ease_49
    exact ⟨fun _ => skip, fun c => absurd rfl c⟩
  refine ⟨ti_in hp hk, fun _ => sk0, fun c2 => ?_⟩
  rw [ti_cl hp] at c2
  refine sf_X7_beside (fun r16 => sf_X7_has (fun r17 _ => ⟨fun _ => sk0, fun _ => s_cost k2 he ms ⟨fun _ => sk0, fun c9 => ?_⟩⟩))
  have cc := (cF_v s e).resolve_left c9
  have upd8 : (s.2.1 20 e = -9 ∨ ¬ (s.2.1 20 e).toInt ≤ (s.2.1 20 k + cF s e).toInt) → B_X7_ease_88 G x1 x3 s Q := by
    intro a
    unfold B_X7_ease_88
    refine ⟨ti_in hp hk, s_cost k2 he ms ⟨ti_in k2 he, ?_⟩⟩
    intro s5 e5
    rw [ti_cl k2, ti_cl hp] at e5
    have get : ∀ j, s5.2.1 20 j = if j = e then s.2.1 20 k + cF s e else s.2.1 20 j := by
      intro j
      rw [e5]
      exact sA_get
    obtain ⟨u1, u2⟩ := Gw_up k5 he hk c2 cc rfl a get
    rw [← hf, ← hf] at u2
    unfold B_X7_ease_108
    intro _ e1
    subst e1
    rw [kM] at u2
    obtain ⟨M2, hM2⟩ : ∃ M2 : Nat, f (s5.2.1 20) = M2 := ⟨_, rfl⟩
    rw [hM2] at u2
    refine hG _ he ⟨rfl, ti_add k2 (by omega), Or.inr rfl, ?_, u1, M2, hM2, Nat.le_trans (Nat.le_of_lt u2) k6, fun _ => Nat.lt_of_lt_of_le u2 k6⟩
    show Ng m s5
    rw [e5]
    exact Ng_A k4
  unfold B_X7_ease_49
  refine ⟨fun c => absurd c (by decide), fun _ => ⟨ti_in k2 he, fun c3 => ?_, fun c3 => ⟨ti_in hp hk, s_cost k2 he ms ⟨ti_in k2 he, fun _ => skip, fun c4 => ?_⟩⟩⟩⟩
  · rw [ti_cl k2] at c3
    exact upd8 (Or.inl c3)
  · rw [ti_cl k2, ti_cl hp, Int32.le_iff_toInt_le] at c4
    exact upd8 (Or.inr c4)
theorem s_gnaw {p q : Int32} {m : CS} {Q : Int32 → CS → Prop} (hm : Mk m) (h : ∀ r n, Mk n → Fr m n → Q r n) : wp_X7_gnaw p q m Q := by
  have hF : ∀ s, Ng m s → ∀ r, Q r s := fun s hs r => h r s (Ng_M hm hs) ⟨by rw [hs.1], by rw [hs.1], hs.2.1, hs.2.2 13 (by decide)⟩
  obtain ⟨f, hf⟩ : ∃ f : FA → Nat, ∀ g, f g = mu g := ⟨mu, fun _ => rfl⟩
  have N0 : Ng m m := ⟨rfl, rfl, fun _ _ => rfl⟩
  unfold wp_X7_gnaw
  refine s_isCell (fun P a1 a2 => ⟨fun c => absurd c (by decide), fun _ => s_isCell (fun C b1 b2 => ⟨fun _ => ⟨fun _ => ?_, fun _ => hF m N0 _⟩, fun c => absurd c (by decide)⟩) ⟨fun c => absurd rfl c, fun _ => hF m N0 _⟩⟩) ⟨fun _ => hF m N0 _, fun c => absurd rfl c⟩
  have lp : ∀ x s, (x = 0 ∨ x = 1) → Ng m s → Gw (s.2.1 20) → B_X7_gnaw_73 q x s Q := by
    intro x s hx hs hg
    unfold B_X7_gnaw_73
    refine LOOP_m (fun z => z.1 = q ∧ (z.2.1 = 0 ∨ z.2.1 = 1) ∧ Ng m z.2.2 ∧ Gw (z.2.2.2.1 20)) (fun z => 2 * f (z.2.2.2.1 20) + if z.2.1 = 0 then 0 else 1) _ ⟨rfl, hx, hs, hg⟩ ?_
    rintro ⟨x2, x3, s1⟩ G ⟨l1, l2, l3, l4⟩ hG
    change LB_X7_gnaw_73 G x2 x3 s1 Q
    dsimp only at l1 l2 l3 l4
    subst l1
    unfold LB_X7_gnaw_73
    refine ⟨fun _ => ⟨ti_in b1 b2, hF s1 l3 _⟩, fun c3 => ?_⟩
    obtain ⟨M1, hM1⟩ : ∃ M : Nat, f (s1.2.1 20) = M := ⟨_, rfl⟩
    unfold B_X7_gnaw_82
    refine LOOP_c 20 (fun k z => z.1 = x2 ∧ z.2.2.1.toInt = (k : Int) ∧ (z.2.1 = 0 ∨ z.2.1 = 1) ∧ Ng m z.2.2.2 ∧ Gw (z.2.2.2.2.1 20) ∧ ∃ M : Nat, f (z.2.2.2.2.1 20) = M ∧ M ≤ M1 ∧ (¬ z.2.1 = 0 → M < M1)) _ ⟨rfl, rfl, Or.inl rfl, l3, l4, M1, hM1, Nat.le_refl M1, fun c => absurd rfl c⟩ ?_
    rintro k ⟨y2, y3, y4, s2⟩ G2 hi ⟨k1, k2, k3, k4, k5, M, kM, k6, k7⟩ hG2
    change LB_X7_gnaw_82 G2 G y2 y3 y4 s2 Q
    dsimp only at k1 k2 k3 k4 k5 kM k6 k7
    subst k1
    unfold LB_X7_gnaw_82
    refine ⟨fun _ => ?_, fun c4 => ?_⟩
    · refine hG _ ⟨rfl, k3, k4, k5⟩ ?_
      show 2 * f (s2.2.1 20) + (if y3 = 0 then 0 else 1) < 2 * f (s1.2.1 20) + (if x3 = 0 then 0 else 1)
      rw [if_neg c3, kM, hM1]
      by_cases e : y3 = 0
      · rw [if_pos e]
        omega
      · rw [if_neg e]
        have := k7 e
        omega
    have hk : k < 20 := by rw [ti_ge (m := 20) k2 rfl] at c4; omega
    refine s_ease hf hm hk k2 k4 k5 (fun r s3 r1 r2 r3 r4 r5 => ?_)
    rw [kM] at r4 r5
    obtain ⟨M3, hM3⟩ : ∃ M : Nat, f (s3.2.1 20) = M := ⟨_, rfl⟩
    rw [hM3] at r4 r5
    have go : ∀ t : Int32, (t = 0 ∨ t = 1) → (¬ t = 0 → M3 < M1) → B_X7_gnaw_107 G G2 y2 y4 t s3 Q := by
      intro t ht ht2
      unfold B_X7_gnaw_107
      intro _ e1
      subst e1
      exact hG2 _ hk ⟨rfl, ti_add k2 (by omega), ht, r2, r3, M3, hM3, Nat.le_trans r4 k6, ht2⟩
    unfold B_X7_gnaw_102
    refine ⟨fun c5 => go 1 (Or.inr rfl) (fun _ => Nat.lt_of_lt_of_le (r5 c5) k6), fun _ => ⟨fun _ => go 0 (Or.inl rfl) (fun c => absurd rfl c), fun c6 => go 1 (Or.inr rfl) (fun _ => Nat.lt_of_le_of_lt r4 (k7 c6))⟩⟩
  unfold B_X7_gnaw_25
  refine LOOP_c 20 (fun i z => z.1 = p ∧ z.2.1 = q ∧ z.2.2.1.toInt = (i : Int) ∧ Ng m z.2.2.2 ∧ ∀ e, e < i → z.2.2.2.2.1 20 e = -9) _ ⟨rfl, rfl, rfl, N0, fun e he => by omega⟩ ?_
  rintro i ⟨x1, x2, x3, s⟩ G hi ⟨l1, l2, l3, l4, l5⟩ hG
  change LB_X7_gnaw_25 G x1 x2 x3 s Q
  dsimp only at l1 l2 l3 l4 l5
  subst l1; subst l2
  unfold LB_X7_gnaw_25
  refine ⟨fun c2 => ?_, fun c2 => ?_⟩
  · have e20 : i = 20 := by rw [ti_ge (m := 20) l3 rfl] at c2; omega
    subst e20
    refine s_cost a1 a2 (Ng_M hm l4) ⟨ti_in a1 a2, ?_⟩
    intro s2 e2
    rw [ti_cl a1] at e2
    have n2 : Ng m s2 := by
      rw [e2]
      exact Ng_A l4
    have up : ∀ j, s2.2.1 20 j = if j = P then cF s P else s.2.1 20 j := by
      intro j
      rw [e2]
      exact sA_get
    have gw : Gw (s2.2.1 20) := by
      intro e he
      rw [up]
      by_cases w : e = P
      · rw [if_pos w]
        rcases cF_v s P with c | c | c
        · exact Or.inl c
        · refine Or.inr ?_
          rw [c]
          exact ⟨by decide, by have : (0 : Int32).toInt = 0 := rfl; omega⟩
        · refine Or.inr ?_
          rw [c]
          refine ⟨by decide, ?_⟩
          have c1 := sm_one (f := fun _ => 0) (g := fun i => ct (s2.2.1 20 i)) a2 (fun i hi hn => by
            rw [up, if_neg hn, l5 i hi]
            rfl)
          have t1 : ct (s2.2.1 20 P) = 1 := by
            rw [up, if_pos rfl, c]
            rfl
          change cn (s2.2.1 20) + 0 = sm (fun _ => 0) 20 + ct (s2.2.1 20 P) at c1
          rw [t1] at c1
          have : (1 : Int32).toInt = 1 := rfl
          omega
      · rw [if_neg w]
        exact Or.inl (l5 e he)
    unfold B_X7_gnaw_72
    exact ⟨ti_in a1 a2, fun _ => lp _ s2 (Or.inl rfl) n2 gw, fun _ => lp _ s2 (Or.inr rfl) n2 gw⟩
  · have c1 : i < 20 := by rw [ti_ge (m := 20) l3 rfl] at c2; omega
    refine ⟨ti_in l3 c1, ?_⟩
    intro s2 e2 _ e3
    subst e3
    rw [ti_cl l3] at e2
    refine hG _ c1 ⟨rfl, rfl, ti_add l3 (by omega), ?_, fun e he => ?_⟩
    · show Ng m s2
      rw [e2]
      exact Ng_A l4
    · show s2.2.1 20 e = -9
      rw [e2, sA_get]
      by_cases w : e = i
      · rw [if_pos w]
      · rw [if_neg w]
        exact l5 e (by omega)
