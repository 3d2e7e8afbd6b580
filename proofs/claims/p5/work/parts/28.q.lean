theorem Mk_copy {m n : CS} (R : Nat) (hR : R = 5 ∨ R = 27) (hm : Mk m) (h1 : ∀ k, ¬ k = 17 → ¬ k = 18 → n.1 k = m.1 k) (h18 : 0 ≤ (n.1 18).toInt ∧ (n.1 18).toInt ≤ 13) (h2 : ∀ k, ¬ k = R → ¬ k = 26 → n.2.1 k = m.2.1 k) (h3 : ∀ L, L ≤ 1 → Bk (n.2.1 R) (35 * L)) : Mk n := by
  obtain ⟨a1, a2, a3, a4, a5, a6, a7, a8, a9, a10⟩ := hm
  unfold Rd at a5
  unfold Mk Rd
  rw [h1 0 (by decide) (by decide), h1 1 (by decide) (by decide), h1 9 (by decide) (by decide), h1 11 (by decide) (by decide), h1 14 (by decide) (by decide), h1 21 (by decide) (by decide), h2 3 (by omega) (by decide), h2 7 (by omega) (by decide), h2 8 (by omega) (by decide), h2 19 (by omega) (by decide)]
  refine ⟨a1, a2, a3, ?_, a5, a6, h18, a8, a9, ?_⟩
  · rcases hR with e | e
    · subst e
      exact h3
    · subst e
      rw [h2 5 (by decide) (by decide)]
      exact a4
  · rcases hR with e | e
    · subst e
      rw [h2 27 (by decide) (by decide)]
      exact a10
    · subst e
      exact h3
theorem s_undo {m : CS} {Q : Int32 → CS → Prop} (hm : Mk m) (h : ∀ r n, Mk n → Fr m n → Q r n) : wp_X7_undo m Q := by
  obtain ⟨N, hN⟩ := nat_of hm.2.2.2.2.2.2.1.1
  have hN13 : N ≤ 13 := by have := hm.2.2.2.2.2.2.1.2; omega
  unfold wp_X7_undo
  refine ⟨fun _ => ?_, fun _ => h _ _ hm (Fr_r m)⟩
  intro s7 e7 s8 e8
  have hN7 : (s7.1 18).toInt = (N : Int) := by
    rw [e7]
    exact hN
  have d1 := ti_add2 hN7 (show (13 : Int32).toInt = ((13 : Nat) : Int) from rfl) (by omega)
  have d2 := ti_div d1 (show (14 : Int32).toInt = ((14 : Nat) : Int) from rfl)
  have d3 := ti_mul d2 (show (14 : Int32).toInt = ((14 : Nat) : Int) from rfl) (by omega)
  have d4 := ti_sub d1 d3 (by omega)
  have hM8 : (s8.1 18).toInt = ((N + 13 - (N + 13) / 14 * 14 : Nat) : Int) := by
    rw [e8]
    exact d4
  have gi : ∀ k, ¬ k = 17 → ¬ k = 18 → s8.1 k = m.1 k := by
    intro k a b
    rw [e8, e7]
    show upd (upd m.1 17 _) 18 _ k = m.1 k
    simp only [upd]
    rw [if_neg b, if_neg a]
  have gr : s8.2.1 = m.2.1 := by
    rw [e8, e7]
    rfl
  have gl : s8.2.2 = m.2.2 := by
    rw [e8, e7]
    rfl
  clear e7 e8 d1 d2 d3 d4 hN7
  obtain ⟨J, hJ⟩ : ∃ J : Nat, J = N + 13 - (N + 13) / 14 * 14 := ⟨_, rfl⟩
  rw [← hJ] at hM8
  have hJ14 : J < 14 := by omega
  have h35J := ti_mul (show (35 : Int32).toInt = ((35 : Nat) : Int) from rfl) hM8 (by omega)
  unfold B_X7_undo_36
  refine LOOP_c 35 (fun i z => z.1.toInt = (i : Int) ∧ z.2.1 = s8.1 ∧ z.2.2.2 = s8.2.2 ∧ (∀ k, ¬ k = 5 → z.2.2.1 k = s8.2.1 k) ∧ (∀ k, k < i → z.2.2.1 5 k = m.2.1 19 (35 * J + k)) ∧ ∀ k, 35 ≤ k → z.2.2.1 5 k = m.2.1 5 k) _ ⟨rfl, rfl, rfl, fun _ _ => rfl, fun k hk => by omega, fun k _ => by rw [gr]⟩ ?_
  rintro i ⟨x1, s⟩ G hi ⟨k1, k2, k3, k4, k5, k6⟩ hG
  change LB_X7_undo_36 G x1 s Q
  dsimp only at k1 k2 k3 k4 k5 k6
  unfold LB_X7_undo_36
  refine ⟨fun c => ?_, fun c => ?_⟩
  · have c1 : i = 35 := by rw [ti_ge (m := 35) k1 rfl] at c; omega
    subst c1
    refine h _ s (Mk_copy 5 (Or.inl rfl) hm (fun k a b => by rw [k2]; exact gi k a b) (by rw [k2]; omega) (fun k a _ => by rw [k4 k a, gr]) (fun L hL => ?_)) ⟨by rw [k2]; exact gi 14 (by decide) (by decide), by rw [k2]; exact gi 21 (by decide) (by decide), k3.trans gl, by rw [k4 13 (by decide), gr]⟩
    rcases (show L = 0 ∨ L = 1 by omega) with e | e <;> subst e
    · exact Bk_eq (hm.2.2.2.2.2.2.2.1 J hJ14) (fun k hk => by rw [show 35 * 0 + k = k by omega]; exact k5 k (by omega))
    · exact Bk_eq (hm.2.2.2.1 1 (by omega)) (fun k hk => k6 _ (by omega))
  have c1 : i < 35 := by rw [ti_ge (m := 35) k1 rfl] at c; omega
  have hi2 : ((35 : Int32) * (s.1 18) + x1).toInt = ((35 * J + i : Nat) : Int) := by
    rw [k2]
    exact ti_add2 h35J k1 (by omega)
  refine ⟨ti_in hi2 (by omega), ti_in k1 (by omega), ?_⟩
  intro s4 e4 _ e5
  rw [ti_cl hi2, ti_cl k1, k4 19 (by decide), gr] at e4
  subst e5
  have up : ∀ j, s4.2.1 5 j = if j = i then m.2.1 19 (35 * J + i) else s.2.1 5 j := by
    intro j
    rw [e4]
    exact sA_get
  refine hG _ c1 ⟨ti_add k1 (by omega), ?_, ?_, fun k hk => ?_, fun k hk => ?_, fun k hk => ?_⟩
  · show s4.1 = s8.1
    rw [e4]
    exact k2
  · show s4.2.2 = s8.2.2
    rw [e4]
    exact k3
  · show s4.2.1 k = s8.2.1 k
    rw [e4, sA_ne hk]
    exact k4 k hk
  · show s4.2.1 5 k = m.2.1 19 (35 * J + k)
    rw [up]
    by_cases e : k = i
    · rw [if_pos e, e]
    · rw [if_neg e]
      exact k5 k (by omega)
  · show s4.2.1 5 k = m.2.1 5 k
    rw [up, if_neg (by omega)]
    exact k6 k hk
theorem s_layTrial {m : CS} {Q : CS → Prop} (hm : Mk m) (h : ∀ n, Mk n → Nw m n → Q n) : wp_X7_layTrial m Q := by
  unfold wp_X7_layTrial B_X7_layTrial_2
  refine LOOP_c 35 (fun i z => z.1.toInt = (i : Int) ∧ Nw m z.2 ∧ (∀ k, k < 35 → z.2.2.1 5 k = m.2.1 5 k) ∧ ∀ k, k < i → z.2.2.1 5 (35 + k) = m.2.1 5 k) _ ⟨rfl, Nw_r m, fun _ _ => rfl, fun k hk => by omega⟩ ?_
  rintro i ⟨x1, s⟩ G hi ⟨k1, k2, k3, k4⟩ hG
  change LB_X7_layTrial_2 G x1 s Q
  dsimp only at k1 k2 k3 k4
  unfold LB_X7_layTrial_2
  refine ⟨fun c => ?_, fun c => ?_⟩
  · have c1 : i = 35 := by rw [ti_ge (m := 35) k1 rfl] at c; omega
    subst c1
    refine h s (Mk_now hm k2 (fun L hL => ?_)) k2
    rcases (show L = 0 ∨ L = 1 by omega) with e | e <;> subst e
    · exact Bk_eq (hm.2.2.2.1 0 (by omega)) (fun k hk => by rw [show 35 * 0 + k = k by omega]; exact k3 k (by omega))
    · exact Bk_eq (hm.2.2.2.1 0 (by omega)) (fun k hk => by rw [show 35 * 0 + k = k by omega]; exact k4 k (by omega))
  have c1 : i < 35 := by rw [ti_ge (m := 35) k1 rfl] at c; omega
  have hi2 := ti_add2 (show (35 : Int32).toInt = ((35 : Nat) : Int) from rfl) k1 (by omega)
  refine ⟨ti_in k1 (by omega), ti_in hi2 (by omega), ?_⟩
  intro s4 e4 _ e5
  rw [ti_cl hi2, ti_cl k1] at e4
  subst e5
  have up : ∀ j, s4.2.1 5 j = if j = 35 + i then s.2.1 5 i else s.2.1 5 j := by
    intro j
    rw [e4]
    exact sA_get
  refine hG _ c1 ⟨ti_add k1 (by omega), ?_, fun k hk => ?_, fun k hk => ?_⟩
  · show Nw m s4
    rw [e4]
    exact Nw_t k2 Nw_A
  · show s4.2.1 5 k = m.2.1 5 k
    rw [up, if_neg (by omega)]
    exact k3 k hk
  · show s4.2.1 5 (35 + k) = m.2.1 5 k
    rw [up]
    by_cases e : k = i
    · rw [if_pos (by omega), e]
      exact k3 i c1
    · rw [if_neg (by omega)]
      exact k4 k (by omega)
theorem s_wedding {p q : Int32} {m : CS} {Q : Int32 → CS → Prop} (hm : Mk m) (h : ∀ r n, Mk n → Fr m n → Q r n) : wp_X7_wedding p q m Q := by
  unfold wp_X7_wedding
  refine s_isHole hm (fun H a b => ⟨fun c => absurd c (by decide), fun _ => s_isHole hm (fun P a2 b2 => ⟨fun _ => ⟨fun _ => ?_, fun _ => h _ _ hm (Fr_r m)⟩, fun c => absurd c (by decide)⟩) ⟨fun c => absurd rfl c, fun _ => h _ _ hm (Fr_r m)⟩⟩) ⟨fun _ => h _ _ hm (Fr_r m), fun c => absurd rfl c⟩
  refine s_layTrial hm (fun n hn hw => ?_)
  have a55 := ti_add2 (show (55 : Int32).toInt = ((55 : Nat) : Int) from rfl) a (by omega)
  have b55 := ti_add2 (show (55 : Int32).toInt = ((55 : Nat) : Int) from rfl) a2 (by omega)
  unfold B_X7_wedding_32
  refine LOOP_c 21 (fun i z => z.1 = p ∧ z.2.1 = q ∧ z.2.2.1.toInt = (i : Int) ∧ Mk z.2.2.2 ∧ Nw m z.2.2.2) _ ⟨rfl, rfl, rfl, hn, hw⟩ ?_
  rintro i ⟨x1, x2, x3, s⟩ G hi ⟨k1, k2, k3, k4, k5⟩ hG
  change LB_X7_wedding_32 G x1 x2 x3 s Q
  dsimp only at k1 k2 k3 k4 k5
  subst k1; subst k2
  unfold LB_X7_wedding_32
  refine ⟨fun _ => h _ _ k4 (Fr_N k5), fun c => ?_⟩
  have c1 : i < 21 := by rw [ti_ge (m := 21) k3 rfl] at c; omega
  refine ⟨ti_in a55 (by omega), fun _ => h _ _ k4 (Fr_N k5), fun _ => ⟨ti_in b55 (by omega), fun _ => ?_, fun _ => h _ _ k4 (Fr_N k5)⟩⟩
  refine s_passOn (L := 1) rfl (by omega) k4 (fun r n2 hn2 hw2 => ?_)
  intro _ e
  subst e
  exact hG _ c1 ⟨rfl, rfl, ti_add k3 (by omega), hn2, Nw_t k5 hw2⟩
theorem s_alive {l : Int32} {L : Nat} {m : CS} {Q : Int32 → Prop} (hl : l.toInt = L) (hL : L ≤ 1) (hm : Mk m) (h : ∀ r, Q r) : wp_X7_alive l m Q := by
  obtain ⟨H, hH⟩ := nat_of hm.2.1.1
  have hH5 : H ≤ 5 := by have := hm.2.1.2; omega
  unfold wp_X7_alive B_X7_alive_4
  refine LOOP_c 5 (fun i z => z.1 = l ∧ z.2.2.toInt = (i : Int)) _ ⟨rfl, rfl⟩ ?_
  rintro i ⟨x1, x2, x3⟩ G hi ⟨k1, k2⟩ hG
  change LB_X7_alive_4 G m x1 x2 x3 Q
  dsimp only at k1 k2
  subst k1
  unfold LB_X7_alive_4
  refine ⟨fun _ => h _, fun c => ?_⟩
  have c1 : i < H := by rw [ti_ge k2 hH] at c; omega
  have a20 := ti_add2 (ti_add2 (t35 hl hL) (show (20 : Int32).toInt = ((20 : Nat) : Int) from rfl) (by omega)) k2 (by omega)
  unfold B_X7_alive_39
  refine ⟨ti_in a20 (by omega), fun _ => ?_, fun _ => ?_⟩ <;> intro _ _ _ e <;> subst e <;> exact hG _ (by omega) ⟨rfl, ti_add k2 (by omega)⟩
theorem s_ahead {p q : Int32} {m : CS} {Q : Int32 → CS → Prop} (hm : Mk m) (h : ∀ r n, Mk n → Fr m n → Q r n) : wp_X7_ahead p q m Q := by
  unfold wp_X7_ahead
  refine e_in3 0 20 rfl rfl (fun a b => ⟨fun c => absurd c (by decide), fun _ => ?_⟩) (fun _ => ⟨fun _ => h _ _ hm (Fr_r m), fun c => absurd rfl c⟩)
  refine sf_X7_in (fun r _ => ⟨fun _ => ?_, fun _ => h _ _ hm (Fr_r m)⟩)
  obtain ⟨n, hn⟩ := nat_of a
  refine s_layTrial hm (fun m1 hm1 hw => ?_)
  unfold B_X7_ahead_31
  refine LOOP_c 20 (fun i z => z.1 = p ∧ z.2.2.1.toInt = (i : Int) ∧ Mk z.2.2.2 ∧ Nw m z.2.2.2) _ ⟨rfl, rfl, hm1, hw⟩ ?_
  rintro i ⟨x1, x2, x3, s⟩ G hi ⟨k1, k3, k4, k5⟩ hG
  change LB_X7_ahead_31 G x1 x2 x3 s Q
  dsimp only at k1 k3 k4 k5
  subst k1
  unfold LB_X7_ahead_31
  refine ⟨fun _ => ⟨fun _ => ?_, fun _ => ?_⟩, fun c => ?_⟩
  · exact s_of (L := 1) rfl (by omega) (fun r _ _ => sf_X7_ones (fun _ => h _ _ k4 (Fr_N k5)))
  · exact s_alive (L := 1) rfl (by omega) k4 (fun _ => h _ _ k4 (Fr_N k5))
  · rw [Int32.le_iff_toInt_le] at c
    refine s_passOn (L := 1) rfl (by omega) k4 (fun r n2 hn2 hw2 => ?_)
    intro _ e
    subst e
    exact hG _ (by omega) ⟨rfl, ti_add k3 (by omega), hn2, Nw_t k5 hw2⟩
theorem s_tryThing {a b c : Int32} {m : CS} {Q : Int32 → CS → Prop} (hm : Mk m) (h : ∀ r n, Mk n → Nw m n → Q r n) : wp_X7_tryThing a b c m Q := by
  have h0 : ∀ r, Q r m := fun r => h r m hm (Nw_r m)
  have h98 : B_X7_tryThing_98 b c 0 m Q := by
    unfold B_X7_tryThing_98
    exact ⟨fun _ => ⟨rfl, h0 _⟩, fun c => absurd rfl c⟩
  have h139 : B_X7_tryThing_139 b c 0 m Q := by
    unfold B_X7_tryThing_139
    exact ⟨fun _ => ⟨rfl, h0 _⟩, fun c => absurd rfl c⟩
  unfold wp_X7_tryThing
  refine ⟨fun _ => ?_, fun _ => ⟨fun _ => ?_, fun _ => ⟨fun _ => ⟨fun _ => h98, fun _ => ?_⟩, fun _ => ⟨fun _ => ⟨fun _ => h139, fun _ => ?_⟩, fun _ => h0 _⟩⟩⟩⟩
  · exact s_passOn (L := 1) rfl (by omega) hm (fun r n hn hw => ⟨fun _ => h _ n hn hw, fun _ => ⟨fun _ => h _ n hn hw, fun _ => h _ n hn hw⟩⟩)
  · exact s_canEat (L := 1) rfl (by omega) hm ⟨fun _ => ⟨rfl, h0 _⟩, fun c => absurd rfl c⟩ (fun P C a1 a2 a3 a4 => ⟨fun c => absurd c (by decide), fun _ => s_eatOn (L := 1) rfl (by omega) a1 a2 a3 a4 hm (fun r n hn hw => ⟨rfl, h _ n hn hw⟩)⟩)
  · refine s_canLet (L := 1) rfl (by omega) hm ⟨fun _ => h98, fun c => absurd rfl c⟩ (fun H P a1 a2 a3 a4 => ⟨fun c => absurd c (by decide), fun _ => ?_⟩)
    unfold B_X7_tryThing_98
    have a60 := ti_add2 (show (60 : Int32).toInt = ((60 : Nat) : Int) from rfl) a1 (by omega)
    refine ⟨fun c => absurd c (by decide), fun _ => ⟨ti_in a60 (by omega), ?_⟩⟩
    intro s e
    rw [ti_cl a60] at e
    subst e
    refine ⟨rfl, h _ _ ?_ Nw_A⟩
    have := Mk_B (L := 1) (i := 25 + H) (v := c) hm (by omega) (by omega) (fun hb => by
      rw [show 35 * 1 + (25 + H) = 35 * 1 + 25 + H by omega]
      exact Bk_let hb a2 (Or.inr (by omega)))
    rw [show 35 * 1 + (25 + H) = 60 + H by omega] at this
    exact this
  · refine s_canSell (L := 1) rfl (by omega) hm ⟨fun _ => h139, fun c => absurd rfl c⟩ (fun H P a1 a2 a3 a4 => ⟨fun c => absurd c (by decide), fun _ => ?_⟩)
    unfold B_X7_tryThing_139
    exact ⟨fun c => absurd c (by decide), fun _ => s_sellOn (L := 1) rfl (by omega) a1 a2 a3 a4 hm (fun r n hn hw => ⟨rfl, h _ n hn hw⟩)⟩
theorem s_judge {p : Int32} {v : Int64} {m : CS} {Q : Int32 → CS → Prop} (hm : Mk m) (h : ∀ r n, Mk n → Fr m n → Q r n) : wp_X7_judge p v m Q := by
  unfold wp_X7_judge
  refine e_in3 1 3 rfl rfl (fun a b => ⟨fun c => absurd c (by decide), fun _ => ?_⟩) (fun a => ⟨fun _ => h _ _ hm (Fr_r m), fun c => absurd rfl c⟩)
  obtain ⟨N, hN⟩ := nat_of (p := p) (by omega)
  refine e_power hN (by omega) (fun r hr => sf_X7_in (fun r2 _ => ⟨fun _ => ?_, fun _ => h _ _ hm (Fr_r m)⟩))
  refine s_layTrial hm (fun m1 hm1 hw => ?_)
  unfold B_X7_judge_39
  refine LOOP_c N (fun i z => z.1 = p ∧ z.2.2.1.toInt = (i : Int) ∧ Mk z.2.2.2 ∧ Nw m z.2.2.2) _ ⟨rfl, rfl, hm1, hw⟩ ?_
  rintro i ⟨x1, x2, x4, s⟩ G hi ⟨k1, k3, k4, k5⟩ hG
  change LB_X7_judge_39 G x1 x2 x4 s Q
  dsimp only at k1 k3 k4 k5
  subst k1
  unfold LB_X7_judge_39
  rw [Int32.le_iff_toInt_le]
  refine ⟨fun _ => h _ _ k4 (Fr_N k5), fun c => ?_⟩
  have s1 := ti_sub hN (show (1 : Int32).toInt = ((1 : Nat) : Int) from rfl) (by omega)
  have s2 := ti_sub s1 k3 (by omega)
  refine e_power s2 (by omega) (fun r2 hr2 => ⟨?_, ?_⟩)
  · rw [tl_z hr2]
    have := p10p (N - 1 - i)
    omega
  intro x5 _
  refine s_tryThing k4 (fun r n hn hw2 => ⟨fun _ => ?_, fun _ => h _ n hn (Fr_N (Nw_t k5 hw2))⟩)
  intro _ e
  subst e
  exact hG _ (by omega) ⟨rfl, ti_add k3 (by omega), hn, Nw_t k5 hw2⟩
def sdn (s : Int64) : Nat → Int64
  | 0 => s
  | k + 1 => sdn s k * 6364136223846793005 + 1442695040888963407
def yrF (p : Int32) (s : Int64) : Int64 := if 1 ≤ p.toInt ∧ p.toInt ≤ 30 then sdn s p.toInt.toNat else s
theorem sL_l {m : CS} {v : Int64} : (sL m v).2.2 = v := rfl
theorem sL_i {m : CS} {v : Int64} : (sL m v).1 = m.1 := rfl
theorem Mk_L {m : CS} (v : Int64) (hm : Mk m) : Mk (sL m v) := hm
theorem s_years {p : Int32} {m : CS} {Q : Int32 → CS → Prop} (hm : Mk m) (h : ∀ r n, Mk n → n.1 14 = m.1 14 → n.1 21 = m.1 21 → n.2.2 = yrF p m.2.2 → n.2.1 13 = m.2.1 13 → Q r n) : wp_X7_years p m Q := by
  unfold wp_X7_years
  unfold yrF at h
  refine e_in3 1 30 rfl rfl (fun a b => ⟨fun _ => ?_, fun c => absurd c (by decide)⟩) (fun a => ⟨fun c => absurd rfl c, fun _ => ?_⟩)
  · rw [if_pos ⟨a, b⟩] at h
    obtain ⟨N, hN⟩ := nat_of (p := p) (by omega)
    rw [show p.toInt.toNat = N by omega] at h
    refine s_layTrial hm (fun m1 hm1 hw => ?_)
    unfold B_X7_years_21
    refine LOOP_c N (fun i z => z.1 = p ∧ z.2.1.toInt = (i : Int) ∧ Mk z.2.2 ∧ z.2.2.1 = m.1 ∧ z.2.2.2.2 = sdn m.2.2 i ∧ z.2.2.2.1 13 = m.2.1 13) _ ⟨rfl, rfl, hm1, hw.1, hw.2.1, hw.2.2 13 (by decide)⟩ ?_
    rintro i ⟨x1, x2, s⟩ G hi ⟨k1, k3, k4, k5, k6, k7⟩ hG
    change LB_X7_years_21 G x1 x2 s Q
    dsimp only at k1 k3 k4 k5 k6 k7
    subst k1
    unfold LB_X7_years_21
    rw [Int32.le_iff_toInt_le]
    refine ⟨fun c => ?_, fun c => ?_⟩
    · have e : i = N := by omega
      subst e
      exact s_of (L := 1) rfl (by omega) (fun r _ _ => s_of (L := 1) rfl (by omega) (fun r2 _ _ => sf_X7_ones (fun _ => h _ _ k4 (by rw [k5]) (by rw [k5]) k6 k7)))
    · intro s6 e6 x3 _
      have g6 : Mk s6 := by
        rw [e6]
        exact Mk_L _ k4
      have i6 : s6.1 = m.1 := by
        rw [e6, sL_i]
        exact k5
      have l6 : s6.2.2 = sdn m.2.2 (i + 1) := by
        rw [e6, sL_l, sdn, k6]
      have t6 : s6.2.1 13 = m.2.1 13 := by
        rw [e6]
        exact k7
      have nx : ∀ n, Mk n → Nw s6 n → B_X7_years_88 G x1 x2 n Q := by
        intro n hn hw2
        unfold B_X7_years_88
        intro _ e
        subst e
        exact hG _ (by omega) ⟨rfl, ti_add k3 (by omega), hn, hw2.1.trans i6, hw2.2.1.trans l6, (hw2.2.2 13 (by decide)).trans t6⟩
      refine ⟨fun _ => ?_, fun _ => ?_⟩
      · exact s_canEat (L := 1) rfl (by omega) g6 ⟨fun _ => nx s6 g6 (Nw_r s6), fun c => absurd rfl c⟩ (fun P C a1 a2 a3 a4 => ⟨fun c => absurd c (by decide), fun _ => s_eatOn (L := 1) rfl (by omega) a1 a2 a3 a4 g6 (fun r n hn hw2 => nx n hn hw2)⟩)
      · exact s_passOn (L := 1) rfl (by omega) g6 (fun r n hn hw2 => nx n hn hw2)
  · rw [if_neg a] at h
    exact h _ _ hm rfl rfl rfl rfl
theorem s_keep {p : Int32} {m : CS} {Q : Int32 → CS → Prop} (hm : Mk m) (h : ∀ r n, Mk n → Fr m n → Q r n) : wp_X7_keep p m Q := by
  unfold wp_X7_keep
  refine e_in3 0 1 rfl rfl (fun a b => ⟨fun _ => ?_, fun c => absurd c (by decide)⟩) (fun a => ⟨fun c => absurd rfl c, fun _ => h _ _ hm (Fr_r m)⟩)
  obtain ⟨P, hP⟩ := nat_of a
  refine ⟨ti_in hP (by omega), ?_⟩
  intro s0 e0
  have g1 : s0.1 = m.1 := by rw [e0]; rfl
  have g2 : s0.2.2 = m.2.2 := by rw [e0]; rfl
  have g3 : ∀ k, ¬ k = 26 → s0.2.1 k = m.2.1 k := by
    intro k hk
    rw [e0]
    exact sA_ne hk
  clear e0
  unfold B_X7_keep_21
  refine LOOP_c 35 (fun i z => z.1 = p ∧ z.2.1.toInt = (i : Int) ∧ z.2.2.1 = m.1 ∧ z.2.2.2.2 = m.2.2 ∧ (∀ k, ¬ k = 27 → ¬ k = 26 → z.2.2.2.1 k = m.2.1 k) ∧ (∀ k, k < i → z.2.2.2.1 27 (35 * P + k) = m.2.1 5 k) ∧ ∀ k, (k < 35 * P ∨ 35 * P + 35 ≤ k) → z.2.2.2.1 27 k = m.2.1 27 k) _ ⟨rfl, rfl, g1, g2, fun k _ hk => g3 k hk, fun k hk => by omega, fun k _ => by rw [g3 27 (by decide)]⟩ ?_
  rintro i ⟨x1, x2, s⟩ G hi ⟨k0, k1, k2, k3, k4, k5, k6⟩ hG
  change LB_X7_keep_21 G x1 x2 s Q
  dsimp only at k0 k1 k2 k3 k4 k5 k6
  subst k0
  unfold LB_X7_keep_21
  refine ⟨fun c => ⟨ti_in (i := 34) rfl (by omega), ?_⟩, fun c => ?_⟩
  · have c1 : i = 35 := by rw [ti_ge (m := 35) k1 rfl] at c; omega
    subst c1
    refine h _ s (Mk_copy 27 (Or.inr rfl) hm (fun k _ _ => by rw [k2]) (by rw [k2]; exact hm.2.2.2.2.2.2.1) k4 (fun L hL => ?_)) ⟨by rw [k2], by rw [k2], k3, k4 13 (by decide) (by decide)⟩
    by_cases e : L = P
    · subst e
      exact Bk_eq (hm.2.2.2.1 0 (by omega)) (fun k hk => by rw [k5 k (by omega), show 35 * 0 + k = k by omega])
    · exact Bk_eq (hm.2.2.2.2.2.2.2.2.2 L hL) (fun k hk => k6 _ (by omega))
  have c1 : i < 35 := by rw [ti_ge (m := 35) k1 rfl] at c; omega
  have hi2 := ti_35 hP (by omega) k1 c1
  refine ⟨ti_in k1 (by omega), ti_in hi2 (by omega), ?_⟩
  intro s4 e4 _ e5
  rw [ti_cl hi2, ti_cl k1] at e4
  subst e5
  have up : ∀ j, s4.2.1 27 j = if j = 35 * P + i then s.2.1 5 i else s.2.1 27 j := by
    intro j
    rw [e4]
    exact sA_get
  refine hG _ c1 ⟨rfl, ti_add k1 (by omega), ?_, ?_, fun k hk hk2 => ?_, fun k hk => ?_, fun k hk => ?_⟩
  · show s4.1 = m.1
    rw [e4]
    exact k2
  · show s4.2.2 = m.2.2
    rw [e4]
    exact k3
  · show s4.2.1 k = m.2.1 k
    rw [e4, sA_ne hk]
    exact k4 k hk hk2
  · show s4.2.1 27 (35 * P + k) = m.2.1 5 k
    rw [up]
    by_cases e : k = i
    · rw [if_pos (by omega), e, k4 5 (by decide) (by decide)]
    · rw [if_neg (by omega)]
      exact k5 k (by omega)
  · show s4.2.1 27 k = m.2.1 27 k
    rw [up, if_neg (by omega)]
    exact k6 k hk
theorem s_again {p : Int32} {m : CS} {Q : Int32 → CS → Prop} (hm : Mk m) (h : ∀ r n, Mk n → Fr m n → Q r n) : wp_X7_again p m Q := by
  unfold wp_X7_again
  refine e_in3 0 1 rfl rfl (fun a b => ⟨fun _ => ?_, fun c => absurd c (by decide)⟩) (fun a => ⟨fun c => absurd rfl c, fun _ => h _ _ hm (Fr_r m)⟩)
  obtain ⟨P, hP⟩ := nat_of a
  refine ⟨ti_in hP (by omega), fun _ => ?_, fun _ => h _ _ hm (Fr_r m)⟩
  unfold B_X7_again_26
  refine LOOP_c 35 (fun i z => z.1 = p ∧ z.2.1.toInt = (i : Int) ∧ Nw m z.2.2 ∧ (∀ k, k < i → z.2.2.2.1 5 k = m.2.1 27 (35 * P + k)) ∧ ∀ k, 35 ≤ k → z.2.2.2.1 5 k = m.2.1 5 k) _ ⟨rfl, rfl, Nw_r m, fun k hk => by omega, fun _ _ => rfl⟩ ?_
  rintro i ⟨x1, x2, s⟩ G hi ⟨k0, k1, k2, k5, k6⟩ hG
  change LB_X7_again_26 G x1 x2 s Q
  dsimp only at k0 k1 k2 k5 k6
  subst k0
  unfold LB_X7_again_26
  refine ⟨fun c => ?_, fun c => ?_⟩
  · have c1 : i = 35 := by rw [ti_ge (m := 35) k1 rfl] at c; omega
    subst c1
    intro s2 e2
    refine ⟨ti_in (i := 34) rfl (by omega), ?_⟩
    have gi : ∀ k, ¬ k = 17 → s2.1 k = m.1 k := by
      intro k hk
      rw [e2, ← k2.1]
      exact if_neg hk
    have gr : s2.2.1 = s.2.1 := by rw [e2]; rfl
    have gl : s2.2.2 = m.2.2 := by rw [e2]; exact k2.2.1
    refine h _ s2 (Mk_copy 5 (Or.inl rfl) hm (fun k hk _ => gi k hk) (by rw [gi 18 (by decide)]; exact hm.2.2.2.2.2.2.1) (fun k hk _ => by rw [gr]; exact k2.2.2 k hk) (fun L hL => ?_)) ⟨gi 14 (by decide), gi 21 (by decide), gl, by rw [gr]; exact k2.2.2 13 (by decide)⟩
    rw [gr]
    rcases (show L = 0 ∨ L = 1 by omega) with e | e <;> subst e
    · exact Bk_eq (hm.2.2.2.2.2.2.2.2.2 P (by omega)) (fun k hk => by rw [show 35 * 0 + k = k by omega]; exact k5 k (by omega))
    · exact Bk_eq (hm.2.2.2.1 1 (by omega)) (fun k hk => k6 _ (by omega))
  have c1 : i < 35 := by rw [ti_ge (m := 35) k1 rfl] at c; omega
  have hi2 := ti_35 hP (by omega) k1 c1
  refine ⟨ti_in hi2 (by omega), ti_in k1 (by omega), ?_⟩
  intro s4 e4 _ e5
  rw [ti_cl hi2, ti_cl k1, k2.2.2 27 (by decide)] at e4
  subst e5
  have up : ∀ j, s4.2.1 5 j = if j = i then m.2.1 27 (35 * P + i) else s.2.1 5 j := by
    intro j
    rw [e4]
    exact sA_get
  refine hG _ c1 ⟨rfl, ti_add k1 (by omega), ?_, fun k hk => ?_, fun k hk => ?_⟩
  · show Nw m s4
    rw [e4]
    exact Nw_t k2 Nw_A
  · show s4.2.1 5 k = m.2.1 27 (35 * P + k)
    rw [up]
    by_cases e : k = i
    · rw [if_pos e, e]
    · rw [if_neg e]
      exact k5 k (by omega)
  · show s4.2.1 5 k = m.2.1 5 k
    rw [up, if_neg (by omega)]
    exact k6 k hk
