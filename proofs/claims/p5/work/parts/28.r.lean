def Rp (m s : CS) : Prop := s.2.2 = m.2.2 ∧ (∀ k, ¬ k = 9 → ¬ k = 10 → ¬ k = 11 → ¬ k = 12 → ¬ k = 15 → ¬ k = 16 → s.1 k = m.1 k) ∧ ∀ k, ¬ k = 6 → ¬ k = 7 → ¬ k = 8 → s.2.1 k = m.2.1 k
theorem Rp_r (m : CS) : Rp m m := ⟨rfl, fun _ _ _ _ _ _ _ => rfl, fun _ _ _ _ => rfl⟩
theorem Rp_t {a b c : CS} (h : Rp a b) (h2 : Rp b c) : Rp a c := ⟨h2.1.trans h.1, fun k k1 k2 k3 k4 k5 k6 => (h2.2.1 k k1 k2 k3 k4 k5 k6).trans (h.2.1 k k1 k2 k3 k4 k5 k6), fun k k1 k2 k3 => (h2.2.2 k k1 k2 k3).trans (h.2.2 k k1 k2 k3)⟩
theorem Rp_I {m : CS} {j : Nat} {v : Int32} (hj : j = 9 ∨ j = 10 ∨ j = 11 ∨ j = 12 ∨ j = 15 ∨ j = 16) : Rp m (sI m j v) := ⟨rfl, fun k k1 k2 k3 k4 k5 k6 => if_neg (by omega), fun _ _ _ _ => rfl⟩
theorem Rp_A {m : CS} {j i : Nat} {v : Int32} (hj : j = 6 ∨ j = 7 ∨ j = 8) : Rp m (sA m j i v) := ⟨rfl, fun _ _ _ _ _ _ _ => rfl, fun k k1 k2 k3 => sA_ne (by omega)⟩
theorem Mk_R {m s : CS} (hm : Mk m) (hr : Rp m s) (hd : Rd s) : Mk s := by
  obtain ⟨a1, a2, a3, a4, a5, a6, a7, a8, a9, a10⟩ := hm
  unfold Mk
  rw [hr.2.1 0 (by decide) (by decide) (by decide) (by decide) (by decide) (by decide), hr.2.1 1 (by decide) (by decide) (by decide) (by decide) (by decide) (by decide), hr.2.1 14 (by decide) (by decide) (by decide) (by decide) (by decide) (by decide), hr.2.1 18 (by decide) (by decide) (by decide) (by decide) (by decide) (by decide), hr.2.1 21 (by decide) (by decide) (by decide) (by decide) (by decide) (by decide), hr.2.2 3 (by decide) (by decide) (by decide), hr.2.2 5 (by decide) (by decide) (by decide), hr.2.2 19 (by decide) (by decide) (by decide), hr.2.2 27 (by decide) (by decide) (by decide)]
  exact ⟨a1, a2, a3, a4, hd, a6, a7, a8, a9, a10⟩
def Tl (s t : CS) : Prop := t.2 = s.2 ∧ (∀ k, ¬ k = 15 → ¬ k = 16 → t.1 k = s.1 k) ∧ (s.1 15).toInt ≤ (t.1 15).toInt ∧ (t.1 15).toInt ≤ 48 ∧ (t.1 16 = s.1 16 ∨ ¬ t.1 16 = -9)
theorem s_told {z al : Int32} {s : CS} {Q : Int32 → CS → Prop} (h15 : 0 ≤ (s.1 15).toInt ∧ (s.1 15).toInt ≤ 48) (h14 : (s.1 14).toInt ≤ 48) (h : ∀ r t, Tl s t → (r = 0 ∨ (0 ≤ r.toInt ∧ r.toInt < 20) ∧ (al >>> (r &&& 31)) &&& 1 = 1) → Q r t) : wp_X7_told z al s Q := by
  have h73 : B_X7_told_73 s Q := by
    unfold B_X7_told_73 B_X7_told_94
    refine ⟨fun c => ?_, fun c => ?_⟩
    · intro t e
      subst e
      exact h _ _ ⟨rfl, fun k _ k2 => if_neg k2, by show (s.1 15).toInt ≤ (s.1 15).toInt; omega, h15.2, Or.inl rfl⟩ (Or.inl rfl)
    · intro t e
      subst e
      refine h _ _ ⟨rfl, fun k _ k2 => if_neg k2, by show (s.1 15).toInt ≤ (s.1 15).toInt; omega, h15.2, Or.inr ?_⟩ (Or.inl rfl)
      show ¬ s.1 15 = -9
      intro e
      rw [e] at h15
      exact absurd h15.1 (by decide)
  have h24 : B_X7_told_24 z al s Q := by
    unfold B_X7_told_24 B_X7_told_25 B_X7_told_45
    exact ⟨fun _ => ⟨fun _ => h73, fun c => absurd rfl c⟩, fun c => absurd rfl c⟩
  unfold wp_X7_told
  refine ⟨fun _ => h24, fun c => ⟨fun _ => h24, fun c2 => ?_⟩⟩
  rw [Int32.le_iff_toInt_le] at c2
  unfold B_X7_told_25
  refine ⟨fun c => absurd c (by decide), fun _ => ⟨by rw [vp_in_iff]; omega, ?_⟩⟩
  unfold B_X7_told_45
  refine ⟨fun c => absurd c (by decide), fun _ => e_in3 0 19 rfl rfl (fun a b => ⟨fun c => absurd c (by decide), fun _ => ?_⟩) (fun _ => ⟨fun _ => h73, fun c => absurd rfl c⟩)⟩
  unfold wp_X7_has
  refine ⟨fun _ => ⟨fun c => absurd rfl c, fun _ => h73⟩, fun c3 => ⟨fun _ => ?_, fun c => absurd c (by decide)⟩⟩
  intro t e
  obtain ⟨A, hA⟩ := nat_of h15.1
  have h1 : (t.1 15).toInt = ((A + 1 : Nat) : Int) := by
    rw [e]
    exact ti_add hA (by omega)
  refine h _ t ⟨by rw [e]; rfl, fun k k1 _ => by rw [e]; exact if_neg k1, by omega, by omega, Or.inl (by rw [e]; rfl)⟩ (Or.inr ⟨by omega, c3⟩)
def Ri (s : CS) : Prop := Rd s ∧ (0 ≤ (s.1 10).toInt ∧ (s.1 10).toInt ≤ 15) ∧ (0 ≤ (s.1 15).toInt ∧ (s.1 15).toInt ≤ 48) ∧ 0 ≤ (s.1 14).toInt ∧ (s.1 14).toInt ≤ 48
theorem Tl_R {s t : CS} (h : Tl s t) : Rp s t := ⟨by rw [h.1], fun k _ _ _ _ k5 k6 => h.2.1 k k5 k6, fun k _ _ _ => by rw [h.1]⟩
theorem Tl_i {s t : CS} (h : Tl s t) (hs : Ri s) : Ri t := by
  obtain ⟨a1, a2, a3, a4⟩ := hs
  unfold Rd at a1
  unfold Ri Rd
  rw [h.1, h.2.1 9 (by decide) (by decide), h.2.1 10 (by decide) (by decide), h.2.1 11 (by decide) (by decide), h.2.1 14 (by decide) (by decide)]
  have := h.2.2.1
  have := h.2.2.2.1
  exact ⟨a1, a2, by omega, a4⟩
theorem row_bits : ∀ w, w < 16 → ∀ r, r < 20 → (((15 : Int32) &&& (Int32.ofInt (w : Nat) ^^^ (-1 : Int32))) >>> (Int32.ofInt (r : Nat) &&& 31)) &&& 1 = 1 → r < 4 := by decide +kernel
theorem own_bits : ∀ w, w < 5 → ∀ r, r < 20 → ((((1 : Int32) <<< (Int32.ofInt (w : Nat) &&& 31)) - (1 : Int32)) >>> (Int32.ofInt (r : Nat) &&& 31)) &&& 1 = 1 → r < 4 := by decide +kernel
theorem or_bits : ∀ w, w < 16 → ∀ r, r < 4 → (Int32.ofInt (w : Nat) ||| ((1 : Int32) <<< (Int32.ofInt (r : Nat) &&& 31))).toInt ≤ 15 ∧ 0 ≤ (Int32.ofInt (w : Nat) ||| ((1 : Int32) <<< (Int32.ofInt (r : Nat) &&& 31))).toInt := by decide +kernel
theorem told_own {w r : Int32} {W : Nat} (hw : w.toInt = W) (hW : W < 5) (h : r = 0 ∨ (0 ≤ r.toInt ∧ r.toInt < 20) ∧ ((((1 : Int32) <<< (w &&& 31)) - (1 : Int32)) >>> (r &&& 31)) &&& 1 = 1) : 0 ≤ r.toInt ∧ r.toInt < 4 := by
  rcases h with e | ⟨a, b⟩
  · subst e
    decide
  · obtain ⟨k, hk⟩ := nat_of a.1
    rw [ti_of hw, ti_of hk] at b
    have := own_bits W hW k (by omega) b
    omega
theorem told_row {w r : Int32} (hw : 0 ≤ w.toInt ∧ w.toInt ≤ 15) (h : r = 0 ∨ (0 ≤ r.toInt ∧ r.toInt < 20) ∧ (((15 : Int32) &&& (w ^^^ (-1 : Int32))) >>> (r &&& 31)) &&& 1 = 1) : ∃ k : Nat, r.toInt = k ∧ k < 4 := by
  rcases h with e | ⟨a, b⟩
  · subst e
    exact ⟨0, rfl, by decide⟩
  · obtain ⟨k, hk⟩ := nat_of a.1
    obtain ⟨W, hW⟩ := nat_of hw.1
    rw [ti_of hW, ti_of hk] at b
    exact ⟨k, hk, row_bits W (by omega) k (by omega) b⟩
def Pg (s t : CS) : Prop := Ri t ∧ Rp s t ∧ (¬ t.1 16 = -9 ∨ (s.1 15).toInt < (t.1 15).toInt)
theorem s_readPart {p : Int32} {s : CS} {Q : CS → Prop} (hs : Ri s) (hlt : (s.1 15).toInt < (s.1 14).toInt) (h : ∀ t, Pg s t → Q t) : wp_X7_readPart p s Q := by
  obtain ⟨A, hA⟩ := nat_of hs.2.2.1.1
  obtain ⟨W, hW⟩ := nat_of hs.1.1.1
  have hW4 : W ≤ 4 := by have := hs.1.1.2; omega
  have h14 := hs.2.2.2.2
  have h299 : B_X7_readPart_299 s Q := by
    unfold B_X7_readPart_299
    intro t e
    subst e
    refine h _ ⟨hs, Rp_I (by omega), Or.inl ?_⟩
    show ¬ s.1 15 = -9
    intro e
    rw [e] at hA
    exact absurd hA (by rw [n9]; omega)
  have st1 : ∀ t, t = sI s 15 ((s.1 15) + 1) → Ri t ∧ Rp s t ∧ (t.1 15).toInt = ((A + 1 : Nat) : Int) := by
    intro t e
    have g : (t.1 15).toInt = ((A + 1 : Nat) : Int) := by
      rw [e]
      exact ti_add hA (by omega)
    refine ⟨⟨?_, ?_, by omega, ?_⟩, by rw [e]; exact Rp_I (by omega), g⟩
    · rw [e]
      exact hs.1
    · rw [e]
      exact hs.2.1
    · rw [e]
      exact hs.2.2.2
  unfold wp_X7_readPart
  intro x2 e2
  have h174 : B_X7_readPart_174 p x2 s Q := by
    unfold B_X7_readPart_174
    refine ⟨fun _ => h299, fun _ => ⟨fun _ => h299, fun _ => ⟨fun _ => h299, fun c5 => ?_⟩⟩⟩
    intro s5 e5
    obtain ⟨i5, p5, a5⟩ := st1 s5 e5
    refine s_told i5.2.2.1 i5.2.2.2.2 (fun r7 s6 t6 b7 => ?_)
    have i6 := Tl_i t6 i5
    have p6 := Rp_t p5 (Tl_R t6)
    obtain ⟨H, hH⟩ := nat_of i6.1.2.1.1
    have e11 : s6.1 11 = s.1 11 := by rw [t6.2.1 11 (by decide) (by decide), e5]; rfl
    have hH5 : H < 5 := by
      rw [e11] at hH
      rw [ti_ge hH (show (5 : Int32).toInt = ((5 : Nat) : Int) from rfl)] at c5
      omega
    have r7c : 0 ≤ r7.toInt ∧ r7.toInt < 20 := by
      rcases b7 with e | ⟨e, _⟩
      · subst e
        decide
      · exact e
    have h3 := ti_mul (show (3 : Int32).toInt = ((3 : Nat) : Int) from rfl) hH (by omega)
    refine ⟨ti_in h3 (by omega), ?_⟩
    intro s9 e9
    rw [ti_cl h3] at e9
    have i9 : Ri s9 := by
      obtain ⟨⟨b1, b2, b3, b4⟩, b5, b6, b7⟩ := i6
      rw [e9]
      refine ⟨⟨b1, b2, ?_, fun k hk => ?_⟩, b5, b6, b7⟩
      · rw [sA_ne (by decide)]
        exact b3
      · rw [sA_get, sA_get, if_neg (by omega : ¬ 3 * k + 1 = 3 * H)]
        by_cases e : k = H
        · rw [if_pos (by omega)]
          exact ⟨r7c, (b4 k hk).2⟩
        · rw [if_neg (by omega)]
          exact b4 k hk
    have p9 : Rp s s9 := by
      rw [e9]
      exact Rp_t p6 (Rp_A (by omega))
    refine s_told i9.2.2.1 i9.2.2.2.2 (fun r11 s10 t10 b11 => ?_)
    have i10 := Tl_i t10 i9
    have p10 := Rp_t p9 (Tl_R t10)
    rw [e2] at b11
    have r11c := told_own hW (by omega) b11
    have hH9 : (s9.1 11).toInt = (H : Int) := by rw [e9]; exact hH
    have h3b := ti_add2 (ti_mul (show (3 : Int32).toInt = ((3 : Nat) : Int) from rfl) hH9 (by omega)) (show (1 : Int32).toInt = ((1 : Nat) : Int) from rfl) (by omega)
    refine ⟨ti_in h3b (by omega), ?_⟩
    intro s13 e13
    rw [ti_cl h3b] at e13
    have i13 : Ri s13 := by
      obtain ⟨⟨b1, b2, b3, b4⟩, b5, b6, b7⟩ := i10
      rw [e13]
      refine ⟨⟨b1, b2, ?_, fun k hk => ?_⟩, b5, b6, b7⟩
      · rw [sA_ne (by decide)]
        exact b3
      · rw [sA_get, sA_get, if_neg (by omega : ¬ 3 * k = 3 * H + 1)]
        by_cases e : k = H
        · rw [if_pos (by omega)]
          exact ⟨(b4 k hk).1, r11c⟩
        · rw [if_neg (by omega)]
          exact b4 k hk
    have p13 : Rp s s13 := by
      rw [e13]
      exact Rp_t p10 (Rp_A (by omega))
    refine s_told i13.2.2.1 i13.2.2.2.2 (fun r15 s14 t14 _ => ?_)
    have i14 := Tl_i t14 i13
    have p14 := Rp_t p13 (Tl_R t14)
    have hH13 : (s13.1 11).toInt = (H : Int) := by
      rw [e13]
      show (s10.1 11).toInt = _
      rw [t10.2.1 11 (by decide) (by decide)]
      exact hH9
    have h3c := ti_add2 (ti_mul (show (3 : Int32).toInt = ((3 : Nat) : Int) from rfl) hH13 (by omega)) (show (2 : Int32).toInt = ((2 : Nat) : Int) from rfl) (by omega)
    refine ⟨ti_in h3c (by omega), ?_⟩
    intro s17 e17 s18 e18 s19 e19
    rw [ti_cl h3c] at e17
    have hH14 : (s14.1 11).toInt = (H : Int) := by
      rw [t14.2.1 11 (by decide) (by decide)]
      exact hH13
    have g11 : (s19.1 11).toInt = ((H + 1 : Nat) : Int) := by
      rw [e19, e18, e17]
      exact ti_add hH14 (by omega)
    have gk : ∀ k, ¬ k = 11 → ¬ k = 12 → s19.1 k = s14.1 k := by
      intro k k1 k2
      rw [e19, e18, e17]
      show upd (upd s14.1 12 _) 11 _ k = s14.1 k
      simp only [upd]
      rw [if_neg k1, if_neg k2]
    have gr : s19.2.1 = (sA s14 8 (3 * H + 2) r15).2.1 := by
      rw [e19, e18, e17]
      rfl
    have gl : s19.2.2 = s14.2.2 := by
      rw [e19, e18, e17]
      rfl
    refine h s19 ⟨⟨⟨by rw [gk 9 (by decide) (by decide)]; exact i14.1.1, by omega, ?_, fun k hk => ?_⟩, by rw [gk 10 (by decide) (by decide)]; exact i14.2.1, by rw [gk 15 (by decide) (by decide)]; exact i14.2.2.1, by rw [gk 14 (by decide) (by decide)]; exact i14.2.2.2⟩, Rp_t p14 ⟨gl, fun k _ _ k3 k4 _ _ => gk k k3 k4, fun k k1 k2 k3 => by rw [gr, sA_ne (by omega)]⟩, Or.inr ?_⟩
    · rw [gr, sA_ne (by decide)]
      exact i14.1.2.2.1
    · rw [gr, sA_get, sA_get, if_neg (by omega), if_neg (by omega)]
      exact i14.1.2.2.2 k hk
    · rw [gk 15 (by decide) (by decide)]
      have q1 := t6.2.2.1
      have q2 := t10.2.2.1
      have q3 := t14.2.2.1
      have q4 : (s9.1 15).toInt = (s6.1 15).toInt := by rw [e9]; rfl
      have q5 : (s13.1 15).toInt = (s10.1 15).toInt := by rw [e13]; rfl
      omega
  have h63 : B_X7_readPart_63 p x2 s Q := by
    unfold B_X7_readPart_63
    refine ⟨fun _ => h174, fun _ => ⟨fun _ => h174, fun _ => ⟨fun _ => h174, fun _ => ?_⟩⟩⟩
    intro s27 e27
    obtain ⟨i5, p5, a5⟩ := st1 s27 e27
    refine s_told i5.2.2.1 i5.2.2.2.2 (fun r29 s28 t28 b29 => ?_)
    have i28 := Tl_i t28 i5
    have p28 := Rp_t p5 (Tl_R t28)
    obtain ⟨k9, hk9, hk4⟩ := told_row i5.2.1 b29
    refine s_told i28.2.2.1 i28.2.2.2.2 (fun r31 s30 t30 b31 => ?_)
    have i30 := Tl_i t30 i28
    have p30 := Rp_t p28 (Tl_R t30)
    rw [e2] at b31
    have r31c := told_own hW (by omega) b31
    have go : ∀ v, Ow v → B_X7_readPart_145 r29 v r29 s30 Q := by
      intro v hv
      unfold B_X7_readPart_145
      refine ⟨ti_in hk9 hk4, ?_⟩
      intro s22 e22
      rw [ti_cl hk9] at e22
      have f167 : ∀ t : Int32, (t = 0 ∨ t = ((1 : Int32) <<< (r29 &&& 31))) → B_X7_readPart_167 t (s22.1 10) s22 Q := by
        intro t ht
        unfold B_X7_readPart_167
        intro s20 e20
        have gk : ∀ k, ¬ k = 10 → s20.1 k = s30.1 k := by
          intro k k1
          rw [e20, e22]
          exact if_neg k1
        have gr : s20.2.1 = (sA s30 7 k9 v).2.1 := by
          rw [e20, e22]
          rfl
        have gl : s20.2.2 = s30.2.2 := by
          rw [e20, e22]
          rfl
        have g10 : 0 ≤ (s20.1 10).toInt ∧ (s20.1 10).toInt ≤ 15 := by
          have e : s20.1 10 = s30.1 10 ||| t := by
            rw [e20, e22]
            rfl
          rw [e]
          rcases ht with e3 | e3
          · rw [e3, Int32.or_zero]
            exact i30.2.1
          · obtain ⟨w, hw⟩ := nat_of i30.2.1.1
            have hw2 := i30.2.1.2
            rw [e3, ti_of hw, ti_of hk9]
            have := or_bits w (by omega) k9 hk4
            exact ⟨this.2, this.1⟩
        refine h s20 ⟨⟨⟨by rw [gk 9 (by decide)]; exact i30.1.1, by rw [gk 11 (by decide)]; exact i30.1.2.1, fun k hk => ?_, ?_⟩, g10, by rw [gk 15 (by decide)]; exact i30.2.2.1, by rw [gk 14 (by decide)]; exact i30.2.2.2⟩, Rp_t p30 ⟨gl, fun k _ k2 _ _ _ _ => gk k k2, fun k k1 k2 k3 => by rw [gr, sA_ne (by omega)]⟩, Or.inr ?_⟩
        · rw [gr, sA_get]
          by_cases e : k = k9
          · rw [if_pos e]
            exact hv
          · rw [if_neg e]
            exact i30.1.2.2.1 k hk
        · rw [gr, sA_ne (by decide)]
          exact i30.1.2.2.2
        · rw [gk 15 (by decide)]
          have q1 := t28.2.2.1
          have q2 := t30.2.2.1
          omega
      exact ⟨fun _ => f167 _ (Or.inl rfl), fun _ => f167 _ (Or.inr rfl)⟩
    refine ⟨fun _ => ⟨ti_in hk9 hk4, go _ ?_⟩, fun _ => go _ (Or.inr r31c)⟩
    rw [ti_cl hk9]
    exact i30.1.2.2.1 k9 hk4
  refine ⟨fun _ => h63, fun _ => ⟨fun _ => h63, fun c4 => ?_⟩⟩
  have hW3 : W < 4 := by rw [ti_ge (m := 4) hW rfl] at c4; omega
  intro s37 e37
  obtain ⟨i5, p5, a5⟩ := st1 s37 e37
  have hW37 : (s37.1 9).toInt = (W : Int) := by rw [e37]; exact hW
  refine s_told i5.2.2.1 i5.2.2.2.2 (fun r39 s38 t38 _ => ⟨ti_in hW37 hW3, ?_⟩)
  have i38 := Tl_i t38 i5
  intro s41 e41 s42 e42
  have hW38 : (s38.1 9).toInt = (W : Int) := by rw [t38.2.1 9 (by decide) (by decide)]; exact hW37
  have g9 : (s42.1 9).toInt = ((W + 1 : Nat) : Int) := by
    rw [e42, e41]
    exact ti_add hW38 (by omega)
  have gk : ∀ k, ¬ k = 9 → s42.1 k = s38.1 k := by
    intro k k1
    rw [e42, e41]
    exact if_neg k1
  have gr : ∀ k, ¬ k = 6 → s42.2.1 k = s38.2.1 k := by
    intro k k1
    rw [e42, e41]
    show (sA s38 6 _ _).2.1 k = _
    rw [sA_ne k1]
  have gl : s42.2.2 = s38.2.2 := by
    rw [e42, e41]
    rfl
  refine h s42 ⟨⟨⟨by omega, by rw [gk 11 (by decide)]; exact i38.1.2.1, by rw [gr 7 (by decide)]; exact i38.1.2.2.1, by rw [gr 8 (by decide)]; exact i38.1.2.2.2⟩, by rw [gk 10 (by decide)]; exact i38.2.1, by rw [gk 15 (by decide)]; exact i38.2.2.1, by rw [gk 14 (by decide)]; exact i38.2.2.2⟩, Rp_t (Rp_t p5 (Tl_R t38)) ⟨gl, fun k k1 _ _ _ _ _ => gk k k1, fun k k1 _ _ => gr k k1⟩, Or.inr ?_⟩
  rw [gk 15 (by decide)]
  have q1 := t38.2.2.1
  omega
