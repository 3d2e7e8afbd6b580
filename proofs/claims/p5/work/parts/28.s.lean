theorem s_readText {m : CS} {Q : Int32 → CS → Prop} (hm : Mk m) (h : ∀ r s, Rp m s → Rd s → Q r s) : wp_X7_readText m Q := by
  unfold wp_X7_readText
  intro s13 e13 s14 e14 s15 e15 s16 e16 s17 e17 s18 e18
  have p18 : Rp m s18 := by
    rw [e18, e17, e16, e15, e14, e13]
    exact Rp_t (Rp_t (Rp_t (Rp_t (Rp_t (Rp_I (by omega)) (Rp_I (by omega))) (Rp_I (by omega))) (Rp_I (by omega))) (Rp_I (by omega))) (Rp_I (by omega))
  have i18 : Ri s18 := by
    obtain ⟨a1, a2, a3, a4, ⟨b1, b2, b3, b4⟩, a6, a7, a8, a9, a10⟩ := hm
    rw [e18, e17, e16, e15, e14, e13]
    exact ⟨⟨(by decide : 0 ≤ (0 : Int32).toInt ∧ (0 : Int32).toInt ≤ 4), (by decide : 0 ≤ (0 : Int32).toInt ∧ (0 : Int32).toInt ≤ 5), b3, b4⟩, (by decide : 0 ≤ (0 : Int32).toInt ∧ (0 : Int32).toInt ≤ 15), (by decide : 0 ≤ (0 : Int32).toInt ∧ (0 : Int32).toInt ≤ 48), a6⟩
  clear e13 e14 e15 e16 e17 e18
  unfold B_X7_readText_33
  refine LOOP_c 4 (fun i z => z.1.toInt = (i : Int) ∧ Ri z.2 ∧ Rp m z.2) _ ⟨rfl, i18, p18⟩ ?_
  rintro i ⟨x1, s⟩ G hi ⟨k1, k2, k3⟩ hG
  change LB_X7_readText_33 G x1 s Q
  dsimp only at k1 k2 k3
  unfold LB_X7_readText_33
  refine ⟨fun _ => ⟨fun _ => h _ _ k3 k2.1, fun c0 => ⟨z_in (by decide), fun _ => ?_, fun _ => h _ _ k3 k2.1⟩⟩, fun c => ?_⟩
  · intro s9 e9
    have p9 : Rp m s9 := by
      rw [e9]
      exact Rp_t k3 (Rp_I (by omega))
    have i9 : Ri s9 := by
      rw [e9]
      exact ⟨k2.1, k2.2.1, (by decide : 0 ≤ (1 : Int32).toInt ∧ (1 : Int32).toInt ≤ 48), k2.2.2.2⟩
    clear e9
    unfold B_X7_readText_77
    refine LOOP_m (fun z => Ri z ∧ Rp m z) (fun z => if z.1 16 = -9 then (49 - (z.1 15).toInt).toNat else 0) _ ⟨i9, p9⟩ ?_
    rintro z G2 ⟨l1, l2⟩ hG2
    change LB_X7_readText_77 G2 z Q
    have fin : B_X7_readText_113 z Q := by
      unfold B_X7_readText_113
      exact h _ _ l2 l1.1
    unfold LB_X7_readText_77
    refine ⟨fun _ => fin, fun c1 => ⟨fun _ => fin, fun c2 => ?_⟩⟩
    rw [Int32.le_iff_toInt_le] at c2
    have b15 := l1.2.2.1
    refine ⟨by rw [vp_in_iff]; have := l1.2.2.2; omega, ?_⟩
    refine s_readPart l1 (by omega) (fun t pg => ?_)
    refine hG2 t ⟨pg.1, Rp_t l2 pg.2.1⟩ ?_
    rw [if_pos c1]
    by_cases e : t.1 16 = -9
    · rw [if_pos e]
      have := pg.2.2.resolve_left (fun q => q e)
      omega
    · rw [if_neg e]
      omega
  · have c1 : i < 4 := by rw [ti_ge (m := 4) k1 rfl] at c; omega
    refine ⟨ti_in k1 c1, ?_⟩
    intro s2 e2 _ e3
    rw [ti_cl k1] at e2
    subst e3
    refine hG _ c1 ⟨ti_add k1 (by omega), ?_, ?_⟩
    · show Ri s2
      rw [e2]
      refine ⟨⟨k2.1.1, k2.1.2.1, fun k hk => ?_, ?_⟩, k2.2⟩
      · rw [sA_get]
        by_cases e : k = i
        · rw [if_pos e]
          exact Or.inl rfl
        · rw [if_neg e]
          exact k2.1.2.2.1 k hk
      · rw [sA_ne (by decide)]
        exact k2.1.2.2.2
    · show Rp m s2
      rw [e2]
      exact Rp_t k3 (Rp_A (by omega))
theorem Fr_R {m s : CS} (h : Rp m s) : Fr m s := ⟨h.2.1 14 (by decide) (by decide) (by decide) (by decide) (by decide) (by decide), h.2.1 21 (by decide) (by decide) (by decide) (by decide) (by decide) (by decide), h.1, h.2.2 13 (by decide) (by decide) (by decide)⟩
theorem s_fault {m : CS} {Q : Int32 → CS → Prop} (hm : Mk m) (h : ∀ r n, Mk n → Fr m n → Q r n) : wp_X7_fault m Q := by
  unfold wp_X7_fault
  exact s_readText hm (fun r s hp hd => h r s (Mk_R hm hp hd) (Fr_R hp))
def ini (k : Nat) : Int32 := if k < 20 then 7 else if k < 30 then -9 else 0
theorem Bk_ini {f : FA} (h : ∀ k, k < 30 → f k = ini k) : Bk f (35 * 0) := by
  refine ⟨fun c hc => Or.inl ?_, fun k hk => Or.inl ?_⟩
  · rw [show 35 * 0 + c = c by omega, h c (by omega)]
    exact if_pos hc
  · rw [show 35 * 0 + 20 + k = 20 + k by omega, h (20 + k) (by omega)]
    unfold ini
    rw [if_neg (by omega), if_pos (by omega)]
theorem s_dairy {m : CS} {Q : Int32 → CS → Prop} (hm : Mk m) (h : ∀ r n, Mk n → Fr m n → Q r n) : wp_X7_dairy m Q := by
  unfold wp_X7_dairy
  refine s_readText hm (fun r s hp hd => ⟨fun _ => ?_, fun _ => h _ s (Mk_R hm hp hd) (Fr_R hp)⟩)
  have hs := Mk_R hm hp hd
  have fs := Fr_R hp
  intro s34 e34 s35 e35
  have g0 : s35.1 0 = s.1 9 := by rw [e35, e34]; rfl
  have g1 : s35.1 1 = s.1 11 := by rw [e35, e34]; rfl
  have gk : ∀ k, ¬ k = 0 → ¬ k = 1 → s35.1 k = s.1 k := by
    intro k a b
    rw [e35, e34]
    show upd (upd s.1 0 _) 1 _ k = s.1 k
    simp only [upd]
    rw [if_neg b, if_neg a]
  have gr : s35.2.1 = s.2.1 := by rw [e35, e34]; rfl
  have gl : s35.2.2 = s.2.2 := by rw [e35, e34]; rfl
  have m35 : Mk s35 := by
    obtain ⟨a1, a2, a3, a4, a5, a6, a7, a8, a9, a10⟩ := hs
    unfold Mk Rd
    rw [g0, g1, gk 9 (by decide) (by decide), gk 11 (by decide) (by decide), gk 14 (by decide) (by decide), gk 18 (by decide) (by decide), gk 21 (by decide) (by decide), gr]
    exact ⟨hd.1, hd.2.1, a3, a4, hd, a6, a7, a8, a9, a10⟩
  have f35 : Fr m s35 := ⟨(gk 14 (by decide) (by decide)).trans fs.1, (gk 21 (by decide) (by decide)).trans fs.2.1, gl.trans fs.2.2.1, by rw [gr]; exact fs.2.2.2⟩
  clear e34 e35
  have last : ∀ t, Mk t → Fr m t → B_X7_dairy_110 0 t Q := by
    intro t0 ht0 ft0
    unfold B_X7_dairy_110
    refine LOOP_c 5 (fun i z => z.1.toInt = (i : Int) ∧ Mk z.2 ∧ Fr m z.2) _ ⟨rfl, ht0, ft0⟩ ?_
    rintro i ⟨x1, t⟩ G hi ⟨k1, k2, k3⟩ hG
    change LB_X7_dairy_110 G x1 t Q
    dsimp only at k1 k2 k3
    unfold LB_X7_dairy_110
    refine ⟨fun _ => ?_, fun c => ?_⟩
    · intro s2 e2
      refine ⟨z_in (by decide), ?_⟩
      intro s4 e4
      refine ⟨ti_in (i := 1) rfl (by decide), ?_⟩
      intro s6 e6
      have q1 : ∀ k, ¬ k = 17 → s6.1 k = t.1 k := by
        intro k hk
        rw [e6, e4, e2]
        exact if_neg hk
      have q2 : ∀ k, ¬ k = 26 → s6.2.1 k = t.2.1 k := by
        intro k hk
        rw [e6, sA_ne hk, e4, sA_ne hk, e2]
        rfl
      have q3 : s6.2.2 = t.2.2 := by
        rw [e6, e4, e2]
        rfl
      refine h _ s6 (Mk_copy 5 (Or.inl rfl) k2 (fun k a _ => q1 k a) (by rw [q1 18 (by decide)]; exact k2.2.2.2.2.2.2.1) (fun k _ b => q2 k b) (by rw [q2 5 (by decide)]; exact k2.2.2.2.1)) ⟨(q1 14 (by decide)).trans k3.1, (q1 21 (by decide)).trans k3.2.1, q3.trans k3.2.2.1, (q2 13 (by decide)).trans k3.2.2.2⟩
    obtain ⟨H, hH⟩ := nat_of k2.2.1.1
    have hH5 := k2.2.1.2
    have c1 : i < H := by rw [ti_ge k1 hH] at c; omega
    have h3 := ti_mul (show (3 : Int32).toInt = ((3 : Nat) : Int) from rfl) k1 (by omega)
    have h31 := ti_add2 h3 (show (1 : Int32).toInt = ((1 : Nat) : Int) from rfl) (by omega)
    have h32 := ti_add2 h3 (show (2 : Int32).toInt = ((2 : Nat) : Int) from rfl) (by omega)
    have h20 := ti_add2 (show (20 : Int32).toInt = ((20 : Nat) : Int) from rfl) k1 (by omega)
    obtain ⟨⟨c2, c3⟩, c4, c5⟩ := k2.2.2.2.2.1.2.2.2 i (by omega)
    obtain ⟨C, hC⟩ := nat_of c2
    refine ⟨ti_in h3 (by omega), ?_⟩
    rw [ti_cl h3]
    refine ⟨ti_in hC (by omega), ?_⟩
    intro s9 e9
    rw [ti_cl hC] at e9
    refine ⟨ti_in h31 (by omega), ti_in h20 (by omega), ?_⟩
    intro s12 e12
    rw [ti_cl h31, ti_cl h20, e9, sA_ne (by decide)] at e12
    refine ⟨ti_in h32 (by omega), ti_in k1 (by omega), ?_⟩
    intro s15 e15 _ e16
    subst e16
    have w12 : s12.2.1 5 = upd (upd (t.2.1 5) (35 * 0 + 20 + i) (t.2.1 8 (3 * i + 1))) (35 * 0 + C) x1 := by
      rw [e12, sA5, sA5]
      funext j
      simp only [upd]
      by_cases a : j = 20 + i
      · rw [if_pos a, if_neg (by omega), if_pos (by omega)]
      · rw [if_neg a]
        by_cases b : j = C
        · rw [if_pos b, if_pos (by omega)]
        · rw [if_neg b, if_neg (by omega), if_neg (by omega)]
    have n12 : Nw t s12 := by
      rw [e12]
      exact Nw_t Nw_A Nw_A
    have m12 : Mk s12 := by
      refine Mk_now k2 n12 (fun L hL => ?_)
      rw [w12]
      have hb := k2.2.2.2.1 L hL
      rcases (show L = 0 ∨ L = 1 by omega) with e | e <;> subst e
      · refine Bk_cell (Bk_own hb (by omega) ⟨c4, c5⟩) (by omega) (Or.inr (Or.inr ⟨i, by omega, k1, ?_⟩))
        rw [show upd (t.2.1 5) (35 * 0 + 20 + i) (t.2.1 8 (3 * i + 1)) (35 * 0 + 20 + i) = t.2.1 8 (3 * i + 1) from if_pos rfl]
        intro e
        rw [e, n9] at c4
        exact absurd c4 (by decide)
      · exact Bk_far (Bk_far hb (by omega)) (by omega)
    have r15 : ∀ k, ¬ k = 4 → s15.2.1 k = s12.2.1 k := by
      intro k hk
      rw [e15]
      exact sA_ne hk
    have i15 : s15.1 = s12.1 := by rw [e15]; rfl
    have l15 : s15.2.2 = s12.2.2 := by rw [e15]; rfl
    refine hG _ (by omega) ⟨ti_add k1 (by omega), ?_, ?_⟩
    · show Mk s15
      obtain ⟨a1, a2, a3, a4, a5, a6, a7, a8, a9, a10⟩ := m12
      unfold Rd at a5
      unfold Mk Rd
      rw [i15, r15 3 (by decide), r15 5 (by decide), r15 7 (by decide), r15 8 (by decide), r15 19 (by decide), r15 27 (by decide)]
      exact ⟨a1, a2, a3, a4, a5, a6, a7, a8, a9, a10⟩
    · show Fr m s15
      refine Fr_t (Fr_t k3 (Fr_N n12)) ⟨by rw [i15], by rw [i15], l15, r15 13 (by decide)⟩
  have mid : ∀ t, Mk t → Fr m t → B_X7_dairy_73 0 t Q := by
    intro t0 ht0 ft0
    unfold B_X7_dairy_73
    refine LOOP_c 4 (fun i z => z.1.toInt = (i : Int) ∧ Mk z.2 ∧ Fr m z.2) _ ⟨rfl, ht0, ft0⟩ ?_
    rintro i ⟨x1, t⟩ G hi ⟨k1, k2, k3⟩ hG
    change LB_X7_dairy_73 G x1 t Q
    dsimp only at k1 k2 k3
    unfold LB_X7_dairy_73
    refine ⟨fun _ => last t k2 k3, fun c => ?_⟩
    have c1 : i < 4 := by rw [ti_ge (m := 4) k1 rfl] at c; omega
    refine ⟨ti_in k1 c1, ti_in k1 c1, ?_⟩
    intro s20 e20
    refine ⟨ti_in k1 c1, ti_in k1 c1, ?_⟩
    intro s23 e23 _ e24
    rw [ti_cl k1] at e23 e20
    subst e24
    have r23 : ∀ k, ¬ k = 2 → ¬ k = 3 → s23.2.1 k = t.2.1 k := by
      intro k a b
      rw [e23, sA_ne b, e20, sA_ne a]
    have i23 : s23.1 = t.1 := by rw [e23, e20]; rfl
    have l23 : s23.2.2 = t.2.2 := by rw [e23, e20]; rfl
    refine hG _ c1 ⟨ti_add k1 (by omega), ?_, ?_⟩
    · show Mk s23
      obtain ⟨a1, a2, a3, a4, a5, a6, a7, a8, a9, a10⟩ := k2
      unfold Rd at a5
      unfold Mk Rd
      rw [i23, r23 5 (by decide) (by decide), r23 7 (by decide) (by decide), r23 8 (by decide) (by decide), r23 19 (by decide) (by decide), r23 27 (by decide) (by decide)]
      refine ⟨a1, a2, fun r hr => ?_, a4, a5, a6, a7, a8, a9, a10⟩
      rw [e23, sA_get]
      by_cases e : r = i
      · rw [if_pos e, e20, sA_ne (by decide)]
        exact a5.2.2.1 i c1
      · rw [if_neg e, e20, sA_ne (by decide)]
        exact a3 r hr
    · show Fr m s23
      exact Fr_t k3 ⟨by rw [i23], by rw [i23], l23, r23 13 (by decide) (by decide)⟩
  unfold B_X7_dairy_30
  refine LOOP_c 35 (fun i z => z.1.toInt = (i : Int) ∧ Nw s35 z.2 ∧ (∀ k, k < i → z.2.2.1 5 k = ini k) ∧ ∀ k, 35 ≤ k → z.2.2.1 5 k = s35.2.1 5 k) _ ⟨rfl, Nw_r _, fun k hk => by omega, fun _ _ => rfl⟩ ?_
  rintro i ⟨x1, t⟩ G hi ⟨k1, k2, k3, k4⟩ hG
  change LB_X7_dairy_30 G x1 t Q
  dsimp only at k1 k2 k3 k4
  unfold LB_X7_dairy_30
  refine ⟨fun c => ?_, fun c => ?_⟩
  · have c1 : i = 35 := by rw [ti_ge (m := 35) k1 rfl] at c; omega
    subst c1
    refine mid t (Mk_now m35 k2 (fun L hL => ?_)) (Fr_t f35 (Fr_N k2))
    rcases (show L = 0 ∨ L = 1 by omega) with e | e <;> subst e
    · exact Bk_ini (fun k hk => k3 k (by omega))
    · exact Bk_eq (m35.2.2.2.1 1 (by omega)) (fun k hk => k4 _ (by omega))
  have c1 : i < 35 := by rw [ti_ge (m := 35) k1 rfl] at c; omega
  have go : ∀ v, v = ini i → B_X7_dairy_64 G x1 v x1 t Q := by
    intro v hv
    unfold B_X7_dairy_64
    refine ⟨ti_in k1 (by omega), ?_⟩
    intro s2 e2 _ e3
    rw [ti_cl k1] at e2
    subst e3
    refine hG _ c1 ⟨ti_add k1 (by omega), ?_, fun k hk => ?_, fun k hk => ?_⟩
    · show Nw s35 s2
      rw [e2]
      exact Nw_t k2 Nw_A
    · show s2.2.1 5 k = ini k
      rw [e2, sA_get]
      by_cases e : k = i
      · rw [if_pos e, e, hv]
      · rw [if_neg e]
        exact k3 k (by omega)
    · show s2.2.1 5 k = s35.2.1 5 k
      rw [e2, sA_get, if_neg (by omega)]
      exact k4 k hk
  rw [ti_ge (m := 20) k1 rfl, ti_ge (m := 30) k1 rfl]
  refine ⟨fun a => ⟨fun b => go _ ?_, fun b => go _ ?_⟩, fun a => go _ ?_⟩
  · unfold ini
    rw [if_neg (by omega), if_neg (by omega)]
  · unfold ini
    rw [if_neg (by omega), if_pos (by omega)]
  · unfold ini
    rw [if_pos (by omega)]
