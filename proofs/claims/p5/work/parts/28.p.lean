theorem s_isOwner {p : Int32} {m : CS} {Q : Int32 → Prop} (hm : Mk m) (h1 : ∀ P : Nat, p.toInt = P → P < 4 → Q 1) (h0 : Q 0) : wp_X7_isOwner p m Q := by
  have a := hm.1
  have e : ((m.1 0) - 1).toInt = (m.1 0).toInt - 1 := by
    have e1 : (1 : Int32).toInt = 1 := rfl
    rw [Int32.toInt_sub, e1, Int.bmod_eq_of_le (by omega) (by omega)]
  unfold wp_X7_isOwner
  refine e_in3 0 ((m.1 0).toInt - 1) rfl (by rw [Int32.toInt_toInt64, e]) (fun b c => ⟨rfl, ?_⟩) (fun _ => ⟨rfl, h0⟩)
  obtain ⟨P, hP⟩ := nat_of b
  exact h1 P hP (by omega)
theorem s_isHole {p : Int32} {m : CS} {Q : Int32 → Prop} (hm : Mk m) (h1 : ∀ P : Nat, p.toInt = P → P < 5 → Q 1) (h0 : Q 0) : wp_X7_isHole p m Q := by
  have a := hm.2.1
  have e : ((m.1 1) - 1).toInt = (m.1 1).toInt - 1 := by
    have e1 : (1 : Int32).toInt = 1 := rfl
    rw [Int32.toInt_sub, e1, Int.bmod_eq_of_le (by omega) (by omega)]
  unfold wp_X7_isHole
  refine e_in3 0 ((m.1 1).toInt - 1) rfl (by rw [Int32.toInt_toInt64, e]) (fun b c => ⟨rfl, ?_⟩) (fun _ => ⟨rfl, h0⟩)
  obtain ⟨P, hP⟩ := nat_of b
  exact h1 P hP (by omega)
theorem s_isCell {p : Int32} {Q : Int32 → Prop} (h1 : ∀ P : Nat, p.toInt = P → P < 20 → Q 1) (h0 : Q 0) : wp_X7_isCell p Q := e_isCell (fun a => by
  obtain ⟨k, hk, hk2, _⟩ := isC_n a
  exact h1 k hk2 hk) (fun _ => h0)
theorem s_ownerOf {l p : Int32} {L c : Nat} {m : CS} {Q : Int32 → Prop} (hl : l.toInt = L) (hL : L ≤ 1) (hp : p.toInt = c) (hc : c < 20) (hm : Mk m) (h : ∀ r, Ow r → Q r) : wp_X7_ownerOf l p m Q := by
  unfold wp_X7_ownerOf
  have h35 := ti_35 hl hL hp (by omega)
  refine ⟨ti_in h35 (by omega), ?_⟩
  intro x3 e3
  rw [ti_cl h35] at e3
  have hb := hm.2.2.2.1 L hL
  refine ⟨fun c7 => ⟨fun c8 => ?_, fun _ => h _ (Or.inl rfl)⟩, fun _ => ?_⟩
  · rcases hb.1 c hc with a | a | ⟨g, g1, g2, g3⟩
    · exact absurd (e3.trans a) c7
    · exact absurd (e3.trans a) c8
    · rw [← e3] at g2
      have a20 := ti_add2 (ti_add2 (t35 hl hL) (show (20 : Int32).toInt = ((20 : Nat) : Int) from rfl) (by omega)) g2 (by omega)
      refine ⟨ti_in a20 (by omega), h _ ?_⟩
      rw [ti_cl a20]
      exact hb.2 g (by omega)
  · have h5 : (p / 5).toInt = ((c / 5 : Nat) : Int) := ti_div hp (show (5 : Int32).toInt = ((5 : Nat) : Int) from rfl)
    refine ⟨ti_in h5 (by omega), h _ ?_⟩
    rw [ti_cl h5]
    exact hm.2.2.1 _ (by omega)
theorem s_canEat {l p q : Int32} {L : Nat} {m : CS} {Q : Int32 → Prop} (hl : l.toInt = L) (hL : L ≤ 1) (hm : Mk m) (h0 : Q 0) (h1 : ∀ P C : Nat, p.toInt = P → P < 4 → q.toInt = C → C < 20 → Q 1) : wp_X7_canEat l p q m Q := by
  unfold wp_X7_canEat
  refine s_isOwner hm (fun P a b => ⟨fun c => absurd c (by decide), fun _ => s_isCell (fun C a2 b2 => ⟨fun c => absurd c (by decide), fun _ => ?_⟩) ⟨fun _ => h0, fun c => absurd rfl c⟩⟩) ⟨fun _ => h0, fun c => absurd rfl c⟩
  have h35 := ti_35 hl hL a2 (by omega)
  exact ⟨ti_in h35 (by omega), fun _ => h0, fun _ => h1 P C a b a2 b2⟩
theorem s_canSell {l p q : Int32} {L : Nat} {m : CS} {Q : Int32 → Prop} (hl : l.toInt = L) (hL : L ≤ 1) (hm : Mk m) (h0 : Q 0) (h1 : ∀ H P : Nat, p.toInt = H → H < 5 → q.toInt = P → P < 4 → Q 1) : wp_X7_canSell l p q m Q := by
  unfold wp_X7_canSell
  intro x4 e4
  have hx : x4.toInt = ((35 * L : Nat) : Int) := by
    rw [e4]
    exact t35 hl hL
  refine s_isHole hm (fun H a b => ⟨fun c => absurd c (by decide), fun _ => s_isOwner hm (fun P a2 b2 => ⟨fun c => absurd c (by decide), fun _ => ?_⟩) ⟨fun _ => h0, fun c => absurd rfl c⟩⟩) ⟨fun _ => h0, fun c => absurd rfl c⟩
  have a20 := ti_add2 (ti_add2 hx (show (20 : Int32).toInt = ((20 : Nat) : Int) from rfl) (by omega)) a (by omega)
  exact ⟨ti_in a20 (by omega), fun _ => h0, fun _ => ⟨ti_in a20 (by omega), fun _ => h0, fun _ => h1 H P a b a2 b2⟩⟩
theorem s_canLet {l p q : Int32} {L : Nat} {m : CS} {Q : Int32 → Prop} (hl : l.toInt = L) (hL : L ≤ 1) (hm : Mk m) (h0 : Q 0) (h1 : ∀ H P : Nat, p.toInt = H → H < 5 → q.toInt = P → P < 4 → Q 1) : wp_X7_canLet l p q m Q := by
  unfold wp_X7_canLet
  intro x4 e4
  have hx : x4.toInt = ((35 * L : Nat) : Int) := by
    rw [e4]
    exact t35 hl hL
  refine s_isHole hm (fun H a b => ⟨fun c => absurd c (by decide), fun _ => s_isOwner hm (fun P a2 b2 => ⟨fun c => absurd c (by decide), fun _ => ?_⟩) ⟨fun _ => h0, fun c => absurd rfl c⟩⟩) ⟨fun _ => h0, fun c => absurd rfl c⟩
  have a20 := ti_add2 (ti_add2 hx (show (20 : Int32).toInt = ((20 : Nat) : Int) from rfl) (by omega)) a (by omega)
  have a25 := ti_add2 (ti_add2 hx (show (25 : Int32).toInt = ((25 : Nat) : Int) from rfl) (by omega)) a (by omega)
  exact ⟨ti_in a20 (by omega), fun _ => h0, fun _ => ⟨ti_in a20 (by omega), fun _ => h0, fun _ => ⟨ti_in a25 (by omega), fun _ => h0, fun _ => h1 H P a b a2 b2⟩⟩⟩
theorem s_eatOn {l p q : Int32} {L P c : Nat} {m : CS} {Q : Int32 → CS → Prop} (hl : l.toInt = L) (hL : L ≤ 1) (hp : p.toInt = P) (hP : P < 4) (hq : q.toInt = c) (hc : c < 20) (hm : Mk m) (h : ∀ r n, Mk n → Nw m n → Q r n) : wp_X7_eatOn l p q m Q := by
  unfold wp_X7_eatOn
  have h35 := ti_35 hl hL hq (by omega)
  refine s_ownerOf hl hL hq hc hm (fun r9 o9 => ⟨ti_in h35 (by omega), ?_⟩)
  intro x5 e5
  rw [ti_cl h35] at e5
  have k65 : ∀ n, Mk n → Nw m n → n.2.1 5 (35 * L + c) = m.2.1 5 (35 * L + c) → B_X7_eatOn_65 l q r9 x5 n Q := by
    intro n hn hn2 hn3
    unfold B_X7_eatOn_65
    refine ⟨ti_in h35 (by omega), ?_⟩
    intro s2 e2
    rw [ti_cl h35] at e2
    have g2 : Mk s2 := by
      rw [e2]
      exact Mk_B hn hL (by omega) (fun hb => Bk_cell hb hc (Or.inr (Or.inl rfl)))
    have n2 : Nw m s2 := by
      rw [e2]
      exact Nw_t hn2 Nw_A
    have at8 : s2.2.1 5 (35 * L + c) = 8 := by
      rw [e2, sA5]
      exact if_pos rfl
    refine ⟨fun _ => h _ _ g2 n2, fun c7 => s_of hl hL (fun r4 _ hr4 => ⟨fun _ => h _ _ g2 n2, fun c4 => ?_⟩)⟩
    have hz := hr4 c4
    rcases (hm.2.2.2.1 L hL).1 c hc with a | a | ⟨g, g1, g2', g3⟩
    · exact absurd (e5.trans a) c7
    · exact absurd (at8.trans (e5.trans a).symm) (hz c hc)
    · rw [← e5] at g2'
      refine s_endHole hl hL g2' g1 g2 (fun d hd e => hz d hd ?_) (fun n' hn' hn2' => h _ n' hn' (Nw_t n2 hn2'))
      exact (ti_of e).trans (ti_of g2').symm
  have k49 : ∀ t, B_X7_eatOn_49 l p q r9 x5 t m Q := by
    intro t
    unfold B_X7_eatOn_49
    exact ⟨fun _ => k65 m hm (Nw_r m) rfl, fun _ => s_pay hl hL hp hP o9 hm (fun n hn hn2 hn3 => k65 n hn hn2 (hn3 c (by omega)))⟩
  unfold B_X7_eatOn_44 B_X7_eatOn_48
  exact ⟨fun _ => k49 _, fun _ => ⟨fun _ => k49 _, fun _ => ⟨ti_in hp hP, fun _ => k49 _, fun _ => k49 _⟩⟩⟩
theorem s_sellOn {l p q : Int32} {L H P : Nat} {m : CS} {Q : Int32 → CS → Prop} (hl : l.toInt = L) (hL : L ≤ 1) (hp : p.toInt = H) (hH : H < 5) (hq : q.toInt = P) (hP : P < 4) (hm : Mk m) (h : ∀ r n, Mk n → Nw m n → Q r n) : wp_X7_sellOn l p q m Q := by
  unfold wp_X7_sellOn
  intro x4 e4
  have hx : x4.toInt = ((35 * L : Nat) : Int) := by
    rw [e4]
    exact t35 hl hL
  have a20 := ti_add2 (ti_add2 hx (show (20 : Int32).toInt = ((20 : Nat) : Int) from rfl) (by omega)) hp (by omega)
  have a25 := ti_add2 (ti_add2 hx (show (25 : Int32).toInt = ((25 : Nat) : Int) from rfl) (by omega)) hp (by omega)
  refine s_of hl hL (fun r4 _ _ => sf_X7_ones (fun r5 => ⟨ti_in a20 (by omega), ?_⟩))
  refine s_pay hl hL hq hP (by rw [ti_cl a20]; exact (hm.2.2.2.1 L hL).2 H (by omega)) hm (fun s7 g7 n7 _ => ⟨ti_in a20 (by omega), ?_⟩)
  intro s9 e9
  rw [ti_cl a20] at e9
  have g9 : Mk s9 := by
    rw [e9, Nat.add_assoc]
    refine Mk_B g7 hL (by omega) (fun hb => ?_)
    rw [← Nat.add_assoc]
    exact Bk_own hb hH (by omega)
  have n9 : Nw m s9 := by
    rw [e9]
    exact Nw_t n7 Nw_A
  have fin : ∀ v, Ow v → B_X7_sellOn_94 r5 v ((x4 + 25) + p) s9 Q := by
    intro v hv
    unfold B_X7_sellOn_94
    refine ⟨ti_in a25 (by omega), ?_⟩
    intro s2 e2
    rw [ti_cl a25] at e2
    subst e2
    refine h _ _ ?_ (Nw_t n9 Nw_A)
    rw [Nat.add_assoc]
    refine Mk_B g9 hL (by omega) (fun hb => ?_)
    rw [← Nat.add_assoc]
    exact Bk_let hb hH hv
  refine ⟨ti_in a25 (by omega), fun _ => ⟨ti_in a25 (by omega), fin _ ?_⟩, fun _ => fin _ (Or.inl rfl)⟩
  rw [ti_cl a25, show 35 * L + 25 + H = 35 * L + 20 + (5 + H) by omega]
  exact (g9.2.2.2.1 L hL).2 (5 + H) (by omega)
def Fr (m n : CS) : Prop := n.1 14 = m.1 14 ∧ n.1 21 = m.1 21 ∧ n.2.2 = m.2.2 ∧ n.2.1 13 = m.2.1 13
theorem Fr_N {m n : CS} (h : Nw m n) : Fr m n := ⟨by rw [h.1], by rw [h.1], h.2.1, h.2.2 13 (by decide)⟩
theorem Fr_r (m : CS) : Fr m m := ⟨rfl, rfl, rfl, rfl⟩
theorem Fr_t {a b c : CS} (h : Fr a b) (h2 : Fr b c) : Fr a c := ⟨h2.1.trans h.1, h2.2.1.trans h.2.1, h2.2.2.1.trans h.2.2.1, h2.2.2.2.trans h.2.2.2⟩
theorem s_keepAct {m : CS} {Q : CS → Prop} (hm : Mk m) (h : ∀ n, Mk n → Fr m n → n.2.1 5 = m.2.1 5 → Q n) : wp_X7_keepAct m Q := by
  obtain ⟨N, hN⟩ := nat_of hm.2.2.2.2.2.2.1.1
  have hN13 : N ≤ 13 := by have := hm.2.2.2.2.2.2.1.2; omega
  have h35N := ti_mul (show (35 : Int32).toInt = ((35 : Nat) : Int) from rfl) hN (by omega)
  unfold wp_X7_keepAct B_X7_keepAct_2
  refine LOOP_c 35 (fun i z => z.1.toInt = (i : Int) ∧ z.2.1 = m.1 ∧ z.2.2.2 = m.2.2 ∧ (∀ k, ¬ k = 19 → z.2.2.1 k = m.2.1 k) ∧ (∀ k, k < i → z.2.2.1 19 (35 * N + k) = m.2.1 5 k) ∧ ∀ k, (k < 35 * N ∨ 35 * N + 35 ≤ k) → z.2.2.1 19 k = m.2.1 19 k) _ ⟨rfl, rfl, rfl, fun _ _ => rfl, fun k hk => by omega, fun _ _ => rfl⟩ ?_
  rintro i ⟨x1, s⟩ G hi ⟨k1, k2, k3, k4, k5, k6⟩ hG
  change LB_X7_keepAct_2 G x1 s Q
  dsimp only at k1 k2 k3 k4 k5 k6
  unfold LB_X7_keepAct_2
  refine ⟨fun c => ?_, fun c => ?_⟩
  · have c1 : i = 35 := by rw [ti_ge (m := 35) k1 rfl] at c; omega
    subst c1
    intro s3 e3
    have hNs : (s.1 18).toInt = (N : Int) := by rw [k2]; exact hN
    have d1 := ti_add2 hNs (show (1 : Int32).toInt = ((1 : Nat) : Int) from rfl) (by omega)
    have d2 := ti_div d1 (show (14 : Int32).toInt = ((14 : Nat) : Int) from rfl)
    have d3 := ti_mul d2 (show (14 : Int32).toInt = ((14 : Nat) : Int) from rfl) (by omega)
    have d4 := ti_sub d1 d3 (by omega)
    have fin : ∀ t, B_X7_keepAct_68 t s3 Q := by
      intro t
      unfold B_X7_keepAct_68
      intro s1 e1
      have gi : ∀ k, ¬ k = 17 → ¬ k = 18 → s1.1 k = m.1 k := by
        intro k a b
        rw [e1, e3, ← k2]
        show upd (upd s.1 18 _) 17 _ k = s.1 k
        simp only [upd]
        rw [if_neg a, if_neg b]
      have g18 : (s1.1 18).toInt = ((N + 1 - (N + 1) / 14 * 14 : Nat) : Int) := by
        rw [e1, e3]
        exact d4
      have gr : s1.2.1 = s.2.1 := by
        rw [e1, e3]
        rfl
      have gl : s1.2.2 = m.2.2 := by
        rw [e1, e3]
        exact k3
      have r5 : s1.2.1 5 = m.2.1 5 := by rw [gr]; exact k4 5 (by decide)
      refine h s1 ?_ ⟨gi 14 (by decide) (by decide), gi 21 (by decide) (by decide), gl, by rw [gr]; exact k4 13 (by decide)⟩ r5
      obtain ⟨a1, a2, a3, a4, a5, a6, a7, a8, a9, a10⟩ := hm
      unfold Rd at a5
      unfold Mk Rd
      rw [gi 0 (by decide) (by decide), gi 1 (by decide) (by decide), gi 9 (by decide) (by decide), gi 11 (by decide) (by decide), gi 14 (by decide) (by decide), gi 21 (by decide) (by decide), r5, gr, k4 3 (by decide), k4 7 (by decide), k4 8 (by decide), k4 27 (by decide)]
      refine ⟨a1, a2, a3, a4, a5, a6, by omega, fun j hj => ?_, a9, a10⟩
      by_cases e : j = N
      · subst e
        exact Bk_eq (a4 0 (by omega)) (fun k hk => by rw [k5 k (by omega), show 35 * 0 + k = k by omega])
      · exact Bk_eq (a8 j hj) (fun k hk => k6 _ (by omega))
    exact ⟨fun _ => fin _, fun _ => fin _⟩
  have c1 : i < 35 := by rw [ti_ge (m := 35) k1 rfl] at c; omega
  have hi2 : ((35 : Int32) * (s.1 18) + x1).toInt = ((35 * N + i : Nat) : Int) := by
    rw [k2]
    exact ti_add2 h35N k1 (by omega)
  refine ⟨ti_in k1 (by omega), ti_in hi2 (by omega), ?_⟩
  intro s7 e7 _ e8
  rw [ti_cl hi2, ti_cl k1] at e7
  subst e8
  have up : ∀ j, s7.2.1 19 j = if j = 35 * N + i then s.2.1 5 i else s.2.1 19 j := by
    intro j
    rw [e7]
    exact sA_get
  refine hG _ c1 ⟨ti_add k1 (by omega), ?_, ?_, fun k hk => ?_, fun k hk => ?_, fun k hk => ?_⟩
  · show s7.1 = m.1
    rw [e7]
    exact k2
  · show s7.2.2 = m.2.2
    rw [e7]
    exact k3
  · show s7.2.1 k = m.2.1 k
    rw [e7, sA_ne hk]
    exact k4 k hk
  · show s7.2.1 19 (35 * N + k) = m.2.1 5 k
    rw [up]
    by_cases e : k = i
    · rw [if_pos (by omega), e, k4 5 (by decide)]
    · rw [if_neg (by omega)]
      exact k5 k (by omega)
  · show s7.2.1 19 k = m.2.1 19 k
    rw [up, if_neg (by omega)]
    exact k6 k hk
theorem s_day {m : CS} {Q : Int32 → CS → Prop} (hm : Mk m) (h : ∀ r n, Mk n → Fr m n → Q r n) : wp_X7_day m Q := by
  unfold wp_X7_day
  exact s_keepAct hm (fun n hn hf _ => s_passOn (L := 0) rfl (by omega) hn (fun r n2 hn2 hw => h r n2 hn2 (Fr_t hf (Fr_N hw))))
theorem s_eat {p q : Int32} {m : CS} {Q : Int32 → CS → Prop} (hm : Mk m) (h : ∀ r n, Mk n → Fr m n → Q r n) : wp_X7_eat p q m Q := by
  unfold wp_X7_eat
  refine s_isOwner hm (fun P a b => ⟨fun c => absurd c (by decide), fun _ => s_isCell (fun C a2 b2 => ⟨fun _ => ?_, fun c => absurd c (by decide)⟩) ⟨fun c => absurd rfl c, fun _ => h _ _ hm (Fr_r m)⟩⟩) ⟨fun _ => h _ _ hm (Fr_r m), fun c => absurd rfl c⟩
  refine s_canEat (L := 0) rfl (by omega) hm ⟨fun c => absurd rfl c, fun _ => h _ _ hm (Fr_r m)⟩ (fun _ _ _ _ _ _ => ⟨fun _ => ?_, fun c => absurd c (by decide)⟩)
  exact s_keepAct hm (fun n hn hf _ => s_eatOn (L := 0) rfl (by omega) a b a2 b2 hn (fun r n2 hn2 hw => h r n2 hn2 (Fr_t hf (Fr_N hw))))
theorem s_let {p q : Int32} {m : CS} {Q : Int32 → CS → Prop} (hm : Mk m) (h : ∀ r n, Mk n → Fr m n → Q r n) : wp_X7_let p q m Q := by
  unfold wp_X7_let
  refine s_isHole hm (fun H a b => ⟨fun c => absurd c (by decide), fun _ => s_isOwner hm (fun P a2 b2 => ⟨fun _ => ?_, fun c => absurd c (by decide)⟩) ⟨fun c => absurd rfl c, fun _ => h _ _ hm (Fr_r m)⟩⟩) ⟨fun _ => h _ _ hm (Fr_r m), fun c => absurd rfl c⟩
  refine s_canLet (L := 0) rfl (by omega) hm ⟨fun c => absurd rfl c, fun _ => h _ _ hm (Fr_r m)⟩ (fun _ _ _ _ _ _ => ⟨fun _ => ?_, fun c => absurd c (by decide)⟩)
  refine s_keepAct hm (fun n hn hf _ => ?_)
  have a25 := ti_add2 (show (25 : Int32).toInt = ((25 : Nat) : Int) from rfl) a (by omega)
  refine ⟨ti_in a25 (by omega), ?_⟩
  intro x3 _
  refine ⟨ti_in a25 (by omega), ?_⟩
  intro s e
  rw [ti_cl a25] at e
  subst e
  refine h _ _ ?_ (Fr_t hf (Fr_N Nw_A))
  have := Mk_B (L := 0) (i := 25 + H) (v := q) hn (by omega) (by omega) (fun hb => by
    rw [show 35 * 0 + (25 + H) = 35 * 0 + 25 + H by omega]
    exact Bk_let hb b (Or.inr (by omega)))
  rw [show 35 * 0 + (25 + H) = 25 + H by omega] at this
  exact this
theorem s_sell {p q : Int32} {m : CS} {Q : Int32 → CS → Prop} (hm : Mk m) (h : ∀ r n, Mk n → Fr m n → Q r n) : wp_X7_sell p q m Q := by
  unfold wp_X7_sell
  refine s_isHole hm (fun H a b => ⟨fun c => absurd c (by decide), fun _ => s_isOwner hm (fun P a2 b2 => ⟨fun _ => ?_, fun c => absurd c (by decide)⟩) ⟨fun c => absurd rfl c, fun _ => h _ _ hm (Fr_r m)⟩⟩) ⟨fun _ => h _ _ hm (Fr_r m), fun c => absurd rfl c⟩
  refine s_canSell (L := 0) rfl (by omega) hm ⟨fun c => absurd rfl c, fun _ => h _ _ hm (Fr_r m)⟩ (fun _ _ _ _ _ _ => ⟨fun _ => ?_, fun c => absurd c (by decide)⟩)
  exact s_keepAct hm (fun n hn hf _ => s_sellOn (L := 0) rfl (by omega) a b a2 b2 hn (fun r n2 hn2 hw => h r n2 hn2 (Fr_t hf (Fr_N hw))))
