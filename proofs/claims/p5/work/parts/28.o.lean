theorem own_of {f : FA} {o c h0 : Nat} {p : Int32} (hb : Bk f o) (hc : c < 20) (he : f (o + c) = p) (hp : p.toInt = h0) (hh : h0 < 5) : ¬ f (o + 20 + h0) = -9 := by
  rcases hb.1 c hc with a | a | ⟨g, g1, g2, g3⟩
  · rw [he] at a
    rw [a] at hp
    have : (7 : Int32).toInt = 7 := rfl
    omega
  · rw [he] at a
    rw [a] at hp
    have : (8 : Int32).toInt = 8 := rfl
    omega
  · rw [he] at g2
    have e : g = h0 := by omega
    subst e
    exact g3
theorem s_join47 {l x6 x7 : Int32} {L g t : Nat} {m : CS} {Q : CS → Prop} (hl : l.toInt = L) (hL : L ≤ 1) (h6 : x6.toInt = g) (hg : g < 5) (h7 : x7.toInt = t) (ht : t < 5) (hgt : ¬ g = t) (hm : Mk m) (ho : ¬ m.2.1 5 (35 * L + 20 + t) = -9) (h : ∀ n, Mk n → Nw m n → Q n) : B_X7_join_47 l x6 x7 m Q := by
  unfold B_X7_join_47 B_X7_join_52
  refine LOOP_c 20 (fun i z => z.1 = l ∧ z.2.1 = x6 ∧ z.2.2.1 = x7 ∧ z.2.2.2.1.toInt = (i : Int) ∧ Mk z.2.2.2.2 ∧ Nw m z.2.2.2.2 ∧ ¬ z.2.2.2.2.2.1 5 (35 * L + 20 + t) = -9 ∧ ∀ c, c < i → ¬ (z.2.2.2.2.2.1 5 (35 * L + c)).toInt = (g : Int)) _ ⟨rfl, rfl, rfl, rfl, hm, Nw_r m, ho, fun c hc => by omega⟩ ?_
  rintro i ⟨y1, y6, y7, y8, s⟩ G hi ⟨k1, k2, k3, k4, k5, k6, k7, k8⟩ hG
  change LB_X7_join_52 G y1 y6 y7 y8 s Q
  dsimp only at k1 k2 k3 k4 k5 k6 k7 k8
  subst k1; subst k2; subst k3
  unfold LB_X7_join_52
  refine ⟨fun c => ?_, fun c => ?_⟩
  · have c1 : i = 20 := by rw [ti_ge (m := 20) k4 rfl] at c; omega
    subst c1
    exact s_endHole hl hL h6 hg k5 k8 (fun n hn hn2 => h n hn (Nw_t k6 hn2))
  have c1 : i < 20 := by rw [ti_ge (m := 20) k4 rfl] at c; omega
  have h35 := ti_35 hl hL k4 (by omega)
  have go : ∀ v : Int32, Cl (s.2.1 5) (35 * L) v → ¬ v.toInt = (g : Int) → B_X7_join_104 G y1 y6 y7 y8 v (((35 : Int32) * y1) + y8) s Q := by
    intro v hv hv2
    unfold B_X7_join_104
    refine ⟨ti_in h35 (by omega), ?_⟩
    intro s2 e2 _ e3
    rw [ti_cl h35] at e2
    subst e3
    have up : ∀ j, s2.2.1 5 j = if j = 35 * L + i then v else s.2.1 5 j := by
      intro j
      rw [e2, sA5]
      rfl
    refine hG _ c1 ⟨rfl, rfl, rfl, ti_add k4 (by omega), ?_, ?_, ?_, fun c hc => ?_⟩
    · show Mk s2
      rw [e2]
      exact Mk_B k5 hL (by omega) (fun hb => Bk_cell hb c1 hv)
    · show Nw m s2
      rw [e2]
      exact Nw_t k6 Nw_A
    · show ¬ s2.2.1 5 (35 * L + 20 + t) = -9
      rw [up, if_neg (by omega)]
      exact k7
    · show ¬ (s2.2.1 5 (35 * L + c)).toInt = (g : Int)
      rw [up]
      by_cases e : c = i
      · rw [if_pos (by omega)]
        exact hv2
      · rw [if_neg (by omega)]
        exact k8 c (by omega)
  refine ⟨ti_in h35 (by omega), fun c2 => ⟨ti_in h35 (by omega), ?_⟩, fun c2 => ?_⟩
  · refine go _ ?_ ?_
    · rw [ti_cl h35]
      exact (k5.2.2.2.1 L hL).1 i c1
    · intro e
      exact c2 ((ti_of e).trans (ti_of h6).symm)
  · exact go _ (Or.inr (Or.inr ⟨t, ht, h7, k7⟩)) (by omega)
theorem s_join {l p q : Int32} {L a b : Nat} {m : CS} {Q : CS → Prop} (hl : l.toInt = L) (hL : L ≤ 1) (hp : p.toInt = a) (ha : a < 5) (hq : q.toInt = b) (hb : b < 5) (hab : ¬ a = b) (hm : Mk m) (ho : ¬ m.2.1 5 (35 * L + 20 + a) = -9) (ho2 : ¬ m.2.1 5 (35 * L + 20 + b) = -9) (h : ∀ n, Mk n → Nw m n → Q n) : wp_X7_join l p q m Q := by
  unfold wp_X7_join
  refine s_of hl hL (fun _ _ _ => s_of hl hL (fun _ _ _ => sf_X7_ones (fun _ => sf_X7_ones (fun _ => ?_))))
  have ne : ¬ q = p := by
    intro e
    subst e
    omega
  unfold B_X7_join_34
  refine ⟨fun _ => ⟨fun _ => s_join47 hl hL hq hb hp ha (fun e => hab e.symm) hm ho h, fun e => absurd e ne⟩, fun _ => ⟨fun e => absurd rfl e, fun _ => s_join47 hl hL hp ha hq hb hab hm ho2 h⟩⟩
theorem s_wed {l : Int32} {L : Nat} {m : CS} {Q : Int32 → CS → Prop} (hl : l.toInt = L) (hL : L ≤ 1) (hm : Mk m) (h : ∀ r n, Mk n → Nw m n → Q r n) : wp_X7_wed l m Q := by
  obtain ⟨H, hH⟩ := nat_of hm.2.1.1
  have hH5 : H ≤ 5 := by have := hm.2.1.2; omega
  unfold wp_X7_wed B_X7_wed_2
  refine LOOP_c 5 (fun i z => z.1 = l ∧ z.2.1.toInt = (i : Int) ∧ z.2.2 = m) _ ⟨rfl, rfl, rfl⟩ ?_
  rintro i ⟨x1, x2, s⟩ G hi ⟨k1, k2, k3⟩ hG
  change LB_X7_wed_2 G x1 x2 s Q
  dsimp only at k1 k2 k3
  subst k1; subst k3
  unfold LB_X7_wed_2
  refine ⟨fun _ => h _ _ hm (Nw_r _), fun c => ?_⟩
  have c1 : i < H := by rw [ti_ge k2 hH] at c; omega
  refine s_of hl hL (fun r8 hr8 _ => ?_)
  refine e_rbeside ?_
  intro x4 e4
  have hx4 : x4.toInt = ((i + 1 : Nat) : Int) := by
    rw [e4]
    exact ti_add k2 (by omega)
  unfold B_X7_wed_25
  refine LOOP_c (5 - (i + 1)) (fun j z => z.1 = x1 ∧ z.2.1 = x2 ∧ z.2.2.1 = rb r8 ∧ z.2.2.2.1.toInt = ((i + 1 + j : Nat) : Int) ∧ z.2.2.2.2 = s) _ ⟨rfl, rfl, rfl, hx4, rfl⟩ ?_
  rintro j ⟨y1, y2, y3, y4, s2⟩ G2 hj ⟨l1, l2, l3, l4, l5⟩ hG2
  change LB_X7_wed_25 G2 G y1 y2 y3 y4 s2 Q
  dsimp only at l1 l2 l3 l4 l5
  subst l1; subst l2; subst l3; subst l5
  unfold LB_X7_wed_25
  refine ⟨fun _ => ?_, fun c2 => ?_⟩
  · intro _ e
    subst e
    exact hG _ (by omega) ⟨rfl, ti_add k2 (by omega), rfl⟩
  have c3 : i + 1 + j < H := by rw [ti_ge l4 hH] at c2; omega
  refine s_of hl hL (fun r3 hr3 _ => ⟨fun _ => ?_, fun c4 => ?_⟩)
  · intro _ e
    subst e
    exact hG2 _ (by omega) ⟨rfl, rfl, rfl, ti_add (i := i + 1 + j) l4 (by omega), rfl⟩
  · have n3 : ¬ r3 = 0 := by
      intro e
      subst e
      exact c4 Int32.and_zero
    have n8 : ¬ r8 = 0 := by
      intro e
      subst e
      exact c4 (by rw [show rb 0 = 0 from rfl]; exact Int32.zero_and)
    obtain ⟨d1, hd1, hd2⟩ := hr8 n8
    obtain ⟨d3, hd3, hd4⟩ := hr3 n3
    have hb := hm.2.2.2.1 L hL
    exact s_join hl hL k2 (by omega) l4 (by omega) (by omega) hm (own_of hb hd1 hd2 k2 (by omega)) (own_of hb hd3 hd4 l4 (by omega)) (fun n hn hn2 => h _ n hn hn2)
theorem s_passOn {l : Int32} {L : Nat} {m : CS} {Q : Int32 → CS → Prop} (hl : l.toInt = L) (hL : L ≤ 1) (hm : Mk m) (h : ∀ r n, Mk n → Nw m n → Q r n) : wp_X7_passOn l m Q := by
  obtain ⟨H, hH⟩ := nat_of hm.2.1.1
  have hH5 : H ≤ 5 := by have := hm.2.1.2; omega
  unfold wp_X7_passOn
  intro x2 e2
  have hx2 : x2.toInt = ((35 * L : Nat) : Int) := by
    rw [e2]
    exact t35 hl hL
  clear e2
  have h80 : ∀ x3 s, Mk s → Nw m s → B_X7_passOn_80 l x2 x3 0 s Q := by
    intro x3 s0 hs0 hn0
    unfold B_X7_passOn_80
    refine LOOP_c 5 (fun i z => z.1 = l ∧ z.2.1 = x2 ∧ z.2.2.2.1.toInt = (i : Int) ∧ Mk z.2.2.2.2 ∧ Nw m z.2.2.2.2) _ ⟨rfl, rfl, rfl, hs0, hn0⟩ ?_
    rintro i ⟨y1, y2, y3, y4, s⟩ G hi ⟨k1, k2, k3, k4, k5⟩ hG
    change LB_X7_passOn_80 G y1 y2 y3 y4 s Q
    dsimp only at k1 k2 k3 k4 k5
    subst k1; subst k2
    unfold LB_X7_passOn_80
    have hH2 : (s.1 1).toInt = (H : Int) := by rw [k5.1]; exact hH
    refine ⟨fun _ => ?_, fun c => ?_⟩
    · have a34 := ti_add2 hx2 (show (34 : Int32).toInt = ((34 : Nat) : Int) from rfl) (by omega)
      refine ⟨ti_in a34 (by omega), ti_in a34 (by omega), ?_⟩
      intro s6 e6
      rw [ti_cl a34] at e6
      subst e6
      exact h _ _ (Mk_B k4 hL (by omega) (fun hb => Bk_far hb (by omega))) (Nw_t k5 Nw_A)
    have c1 : i < H := by rw [ti_ge k3 hH2] at c; omega
    have hb := k4.2.2.2.1 L hL
    have a25 := ti_add2 (ti_add2 hx2 (show (25 : Int32).toInt = ((25 : Nat) : Int) from rfl) (by omega)) k3 (by omega)
    have a20 := ti_add2 (ti_add2 hx2 (show (20 : Int32).toInt = ((20 : Nat) : Int) from rfl) (by omega)) k3 (by omega)
    have nx : ∀ n, Mk n → Nw m n → B_X7_passOn_161 G y1 y2 y3 y4 n Q := by
      intro n hn hn2
      unfold B_X7_passOn_161
      intro _ e
      subst e
      exact hG _ (by omega) ⟨rfl, rfl, ti_add k3 (by omega), hn, hn2⟩
    refine ⟨ti_in a25 (by omega), ?_⟩
    intro x5 e5
    rw [ti_cl a25] at e5
    have o5 : Ow x5 := by
      rw [e5, show 35 * L + 25 + i = 35 * L + 20 + (5 + i) by omega]
      exact hb.2 (5 + i) (by omega)
    refine ⟨fun _ => nx s k4 k5, fun c5 => ?_⟩
    obtain ⟨w, hw, hw2⟩ := Ow_in o5 c5
    refine s_of hl hL (fun r _ _ => sf_X7_ones (fun r2 => ⟨ti_in a20 (by omega), ti_in hw2 (by omega), ?_⟩))
    have o2 : Ow (s.2.1 5 ((y2 + 20) + y4).toNatClampNeg) := by
      rw [ti_cl a20]
      exact hb.2 i (by omega)
    unfold B_X7_passOn_158
    exact ⟨fun _ => s_pay hl hL hw2 hw o2 k4 (fun n hn hn2 _ => nx n hn (Nw_t k5 hn2)), fun _ => s_pay hl hL hw2 hw o2 k4 (fun n hn hn2 _ => nx n hn (Nw_t k5 hn2))⟩
  have h58 : ∀ s, Mk s → Nw m s → B_X7_passOn_58 l x2 0 s Q := by
    intro s0 hs0 hn0
    unfold B_X7_passOn_58
    refine LOOP_c 5 (fun i z => z.1 = l ∧ z.2.1 = x2 ∧ z.2.2.1.toInt = (i : Int) ∧ Mk z.2.2.2 ∧ Nw m z.2.2.2) _ ⟨rfl, rfl, rfl, hs0, hn0⟩ ?_
    rintro i ⟨y1, y2, y3, s⟩ G hi ⟨k1, k2, k3, k4, k5⟩ hG
    change LB_X7_passOn_58 G y1 y2 y3 s Q
    dsimp only at k1 k2 k3 k4 k5
    subst k1; subst k2
    unfold LB_X7_passOn_58 B_X7_passOn_77
    refine ⟨fun _ => h80 _ s k4 k5, fun c => ?_⟩
    have c1 : i < 5 := by rw [ti_ge (m := 5) k3 rfl] at c; omega
    refine s_wed hl hL k4 (fun r n hn hn2 => ⟨fun _ => h80 _ n hn (Nw_t k5 hn2), fun _ => ?_⟩)
    intro _ e
    subst e
    exact hG _ c1 ⟨rfl, rfl, ti_add k3 (by omega), hn, Nw_t k5 hn2⟩
  unfold B_X7_passOn_7
  refine LOOP_c 5 (fun i z => z.1 = l ∧ z.2.1 = x2 ∧ z.2.2.1.toInt = (i : Int) ∧ Mk z.2.2.2 ∧ Nw m z.2.2.2) _ ⟨rfl, rfl, rfl, hm, Nw_r m⟩ ?_
  rintro i ⟨y1, y2, y3, s⟩ G hi ⟨k1, k2, k3, k4, k5⟩ hG
  change LB_X7_passOn_7 G y1 y2 y3 s Q
  dsimp only at k1 k2 k3 k4 k5
  subst k1; subst k2
  unfold LB_X7_passOn_7
  have hH2 : (s.1 1).toInt = (H : Int) := by rw [k5.1]; exact hH
  refine ⟨fun _ => h58 s k4 k5, fun c => ?_⟩
  have c1 : i < H := by rw [ti_ge k3 hH2] at c; omega
  unfold B_X7_passOn_18
  refine LOOP_c 2 (fun j z => z.1 = y1 ∧ z.2.1 = y2 ∧ z.2.2.1 = y3 ∧ z.2.2.2.1.toInt = (j : Int) ∧ Mk z.2.2.2.2 ∧ Nw m z.2.2.2.2) _ ⟨rfl, rfl, rfl, rfl, k4, k5⟩ ?_
  rintro j ⟨z1, z2, z3, z4, s2⟩ G2 hj ⟨l1, l2, l3, l4, l5, l6⟩ hG2
  change LB_X7_passOn_18 G2 G z1 z2 z3 z4 s2 Q
  dsimp only at l1 l2 l3 l4 l5 l6
  subst l1; subst l2; subst l3
  have g : ∀ t : Int32, t.toInt ≤ 2 → B_X7_passOn_35 G G2 z1 z2 z3 z4 t z4 s2 Q := by
    intro t ht
    unfold B_X7_passOn_35
    refine ⟨fun _ => ?_, fun c2 => ?_⟩
    · intro _ e
      subst e
      exact hG _ (by omega) ⟨rfl, rfl, ti_add k3 (by omega), l5, l6⟩
    · rw [Int32.le_iff_toInt_le] at c2
      refine s_grow hl hL k3 (by omega) l5 (fun n hn hn2 => ?_)
      intro _ e
      subst e
      exact hG2 _ (by omega) ⟨rfl, rfl, rfl, ti_add l4 (by omega), hn, Nw_t l6 hn2⟩
  unfold LB_X7_passOn_18
  exact ⟨ti_in k3 (by omega), fun _ => g _ (by decide), fun _ => g _ (by decide)⟩
