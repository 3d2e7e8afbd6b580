def Ow (v : Int32) : Prop := v = -9 ∨ (0 ≤ v.toInt ∧ v.toInt < 4)
def Cl (f : FA) (o : Nat) (v : Int32) : Prop := v = 7 ∨ v = 8 ∨ ∃ h : Nat, h < 5 ∧ v.toInt = h ∧ ¬ f (o + 20 + h) = -9
def Bk (f : FA) (o : Nat) : Prop := (∀ c, c < 20 → Cl f o (f (o + c))) ∧ ∀ h, h < 10 → Ow (f (o + 20 + h))
theorem Bk_far {f : FA} {o i : Nat} {v : Int32} (hb : Bk f o) (hi : i < o ∨ o + 30 ≤ i) : Bk (upd f i v) o := by
  have g : ∀ j, j < 30 → upd f i v (o + j) = f (o + j) := fun j hj => if_neg (by omega)
  refine ⟨fun c hc => ?_, fun h hh => ?_⟩
  · rw [g c (by omega)]
    rcases hb.1 c hc with a | a | ⟨h, h1, h2, h3⟩
    · exact Or.inl a
    · exact Or.inr (Or.inl a)
    · refine Or.inr (Or.inr ⟨h, h1, h2, ?_⟩)
      rw [Nat.add_assoc, g _ (by omega), ← Nat.add_assoc]
      exact h3
  · rw [Nat.add_assoc, g _ (by omega), ← Nat.add_assoc]
    exact hb.2 h hh
theorem Bk_cell {f : FA} {o c : Nat} {v : Int32} (hb : Bk f o) (hc : c < 20) (hv : Cl f o v) : Bk (upd f (o + c) v) o := by
  have g : ∀ h, h < 10 → upd f (o + c) v (o + 20 + h) = f (o + 20 + h) := fun j hj => if_neg (by omega)
  have t : ∀ w, Cl f o w → Cl (upd f (o + c) v) o w := by
    intro w hw
    rcases hw with a | a | ⟨h, h1, h2, h3⟩
    · exact Or.inl a
    · exact Or.inr (Or.inl a)
    · refine Or.inr (Or.inr ⟨h, h1, h2, ?_⟩)
      rw [g h (by omega)]
      exact h3
  refine ⟨fun d hd => ?_, fun h hh => ?_⟩
  · by_cases e : d = c
    · subst e
      rw [show upd f (o + d) v (o + d) = v from if_pos rfl]
      exact t _ hv
    · rw [show upd f (o + c) v (o + d) = f (o + d) from if_neg (by omega)]
      exact t _ (hb.1 d hd)
  · rw [g h hh]
    exact hb.2 h hh
theorem Bk_own {f : FA} {o k : Nat} {v : Int32} (hb : Bk f o) (hk : k < 5) (hv : 0 ≤ v.toInt ∧ v.toInt < 4) : Bk (upd f (o + 20 + k) v) o := by
  have n9 : ¬ v = -9 := by
    intro e
    subst e
    exact absurd hv.1 (by decide)
  refine ⟨fun d hd => ?_, fun h hh => ?_⟩
  · rw [show upd f (o + 20 + k) v (o + d) = f (o + d) from if_neg (by omega)]
    rcases hb.1 d hd with a | a | ⟨h, h1, h2, h3⟩
    · exact Or.inl a
    · exact Or.inr (Or.inl a)
    · refine Or.inr (Or.inr ⟨h, h1, h2, ?_⟩)
      by_cases e : h = k
      · subst e
        rw [show upd f (o + 20 + h) v (o + 20 + h) = v from if_pos rfl]
        exact n9
      · rw [show upd f (o + 20 + k) v (o + 20 + h) = f (o + 20 + h) from if_neg (by omega)]
        exact h3
  · by_cases e : h = k
    · subst e
      rw [show upd f (o + 20 + h) v (o + 20 + h) = v from if_pos rfl]
      exact Or.inr hv
    · rw [show upd f (o + 20 + k) v (o + 20 + h) = f (o + 20 + h) from if_neg (by omega)]
      exact hb.2 h hh
theorem Bk_end {f : FA} {o k : Nat} (hb : Bk f o) (hk : k < 5) (hn : ∀ c, c < 20 → ¬ (f (o + c)).toInt = (k : Int)) : Bk (upd f (o + 20 + k) (-9)) o := by
  refine ⟨fun d hd => ?_, fun h hh => ?_⟩
  · rw [show upd f (o + 20 + k) (-9) (o + d) = f (o + d) from if_neg (by omega)]
    rcases hb.1 d hd with a | a | ⟨h, h1, h2, h3⟩
    · exact Or.inl a
    · exact Or.inr (Or.inl a)
    · refine Or.inr (Or.inr ⟨h, h1, h2, ?_⟩)
      have e : ¬ h = k := by
        intro e
        subst e
        exact hn d hd h2
      rw [show upd f (o + 20 + k) (-9) (o + 20 + h) = f (o + 20 + h) from if_neg (by omega)]
      exact h3
  · by_cases e : h = k
    · subst e
      rw [show upd f (o + 20 + h) (-9) (o + 20 + h) = -9 from if_pos rfl]
      exact Or.inl rfl
    · rw [show upd f (o + 20 + k) (-9) (o + 20 + h) = f (o + 20 + h) from if_neg (by omega)]
      exact hb.2 h hh
theorem Bk_let {f : FA} {o k : Nat} {v : Int32} (hb : Bk f o) (hk : k < 5) (hv : Ow v) : Bk (upd f (o + 25 + k) v) o := by
  refine ⟨fun d hd => ?_, fun h hh => ?_⟩
  · rw [show upd f (o + 25 + k) v (o + d) = f (o + d) from if_neg (by omega)]
    rcases hb.1 d hd with a | a | ⟨h, h1, h2, h3⟩
    · exact Or.inl a
    · exact Or.inr (Or.inl a)
    · refine Or.inr (Or.inr ⟨h, h1, h2, ?_⟩)
      rw [show upd f (o + 25 + k) v (o + 20 + h) = f (o + 20 + h) from if_neg (by omega)]
      exact h3
  · by_cases e : h = 5 + k
    · subst e
      rw [show upd f (o + 25 + k) v (o + 20 + (5 + k)) = v from if_pos (by omega)]
      exact hv
    · rw [show upd f (o + 25 + k) v (o + 20 + h) = f (o + 20 + h) from if_neg (by omega)]
      exact hb.2 h hh
theorem Bk_eq {f g : FA} {o q : Nat} (hb : Bk f o) (h : ∀ j, j < 30 → g (q + j) = f (o + j)) : Bk g q := by
  refine ⟨fun c hc => ?_, fun k hk => ?_⟩
  · rw [h c (by omega)]
    rcases hb.1 c hc with a | a | ⟨k, h1, h2, h3⟩
    · exact Or.inl a
    · exact Or.inr (Or.inl a)
    · refine Or.inr (Or.inr ⟨k, h1, h2, ?_⟩)
      rw [Nat.add_assoc, h _ (by omega), ← Nat.add_assoc]
      exact h3
  · rw [Nat.add_assoc, h _ (by omega), ← Nat.add_assoc]
    exact hb.2 k hk
def Rd (m : CS) : Prop := (0 ≤ (m.1 9).toInt ∧ (m.1 9).toInt ≤ 4) ∧ (0 ≤ (m.1 11).toInt ∧ (m.1 11).toInt ≤ 5) ∧ (∀ k, k < 4 → Ow (m.2.1 7 k)) ∧ ∀ h, h < 5 → (0 ≤ (m.2.1 8 (3 * h)).toInt ∧ (m.2.1 8 (3 * h)).toInt < 20) ∧ 0 ≤ (m.2.1 8 (3 * h + 1)).toInt ∧ (m.2.1 8 (3 * h + 1)).toInt < 4
def Mk (m : CS) : Prop := (0 ≤ (m.1 0).toInt ∧ (m.1 0).toInt ≤ 4) ∧ (0 ≤ (m.1 1).toInt ∧ (m.1 1).toInt ≤ 5) ∧ (∀ r, r < 4 → Ow (m.2.1 3 r)) ∧ (∀ L, L ≤ 1 → Bk (m.2.1 5) (35 * L)) ∧ Rd m ∧ (0 ≤ (m.1 14).toInt ∧ (m.1 14).toInt ≤ 48) ∧ (0 ≤ (m.1 18).toInt ∧ (m.1 18).toInt ≤ 13) ∧ (∀ j, j < 14 → Bk (m.2.1 19) (35 * j)) ∧ (0 ≤ (m.1 21).toInt ∧ (m.1 21).toInt ≤ 6) ∧ ∀ L, L ≤ 1 → Bk (m.2.1 27) (35 * L)
def Nw (m n : CS) : Prop := n.1 = m.1 ∧ n.2.2 = m.2.2 ∧ ∀ k, ¬ k = 5 → n.2.1 k = m.2.1 k
theorem Nw_r (m : CS) : Nw m m := ⟨rfl, rfl, fun _ _ => rfl⟩
theorem Nw_t {a b c : CS} (h : Nw a b) (h2 : Nw b c) : Nw a c := ⟨h2.1.trans h.1, h2.2.1.trans h.2.1, fun k hk => (h2.2.2 k hk).trans (h.2.2 k hk)⟩
theorem Nw_A {m : CS} {i : Nat} {v : Int32} : Nw m (sA m 5 i v) := ⟨rfl, rfl, fun k hk => sA_ne hk⟩
theorem sA5 {m : CS} {i : Nat} {v : Int32} : (sA m 5 i v).2.1 5 = upd (m.2.1 5) i v := by simp [sA, sF, va_up]
theorem Mk_now {m n : CS} (hm : Mk m) (hn : Nw m n) (h : ∀ L, L ≤ 1 → Bk (n.2.1 5) (35 * L)) : Mk n := by
  obtain ⟨a1, a2, a3, a4, a5, a6, a7, a8, a9, a10⟩ := hm
  unfold Mk Rd
  unfold Rd at a5
  rw [hn.1, hn.2.2 3 (by decide), hn.2.2 7 (by decide), hn.2.2 8 (by decide), hn.2.2 19 (by decide), hn.2.2 27 (by decide)]
  exact ⟨a1, a2, a3, h, a5, a6, a7, a8, a9, a10⟩
theorem Mk_A {m : CS} {i : Nat} {v : Int32} (hm : Mk m) (h : ∀ L, L ≤ 1 → Bk (upd (m.2.1 5) i v) (35 * L)) : Mk (sA m 5 i v) := Mk_now hm Nw_A (by rw [sA5]; exact h)
theorem Mk_B {m : CS} {L i : Nat} {v : Int32} (hm : Mk m) (hL : L ≤ 1) (hi : i < 35) (h : Bk (m.2.1 5) (35 * L) → Bk (upd (m.2.1 5) (35 * L + i) v) (35 * L)) : Mk (sA m 5 (35 * L + i) v) := by
  refine Mk_A hm (fun K hK => ?_)
  have hb := hm.2.2.2.1 K hK
  by_cases e : K = L
  · subst e
    exact h hb
  · exact Bk_far hb (by omega)
theorem t35 {l : Int32} {L : Nat} (hl : l.toInt = L) (hL : L ≤ 1) : ((35 : Int32) * l).toInt = ((35 * L : Nat) : Int) := by
  have e := ti_of hl
  subst e
  rcases (show L = 0 ∨ L = 1 by omega) with e | e <;> subst e <;> decide
theorem or0 {x y : Int32} (h : x ||| y = 0) : x = 0 ∧ y = 0 := by
  have h2 := congrArg Int32.toBitVec h
  rw [Int32.toBitVec_or] at h2
  have h3 := BitVec.or_eq_zero_iff.mp (h2.trans rfl)
  exact ⟨Int32.toBitVec_inj.mp (h3.1.trans rfl), Int32.toBitVec_inj.mp (h3.2.trans rfl)⟩
theorem s_of {l q : Int32} {L : Nat} {m : CS} {Q : Int32 → Prop} (hl : l.toInt = L) (hL : L ≤ 1) (h : ∀ r, (¬ r = 0 → ∃ c, c < 20 ∧ m.2.1 5 (35 * L + c) = q) → (r = 0 → ∀ c, c < 20 → ¬ m.2.1 5 (35 * L + c) = q) → Q r) : wp_X7_of l q m Q := by
  unfold wp_X7_of B_X7_of_5
  refine LOOP_c 20 (fun i z => z.1 = l ∧ z.2.1 = q ∧ (¬ z.2.2.1 = 0 → ∃ c, c < 20 ∧ m.2.1 5 (35 * L + c) = q) ∧ (z.2.2.1 = 0 → ∀ c, c < i → ¬ m.2.1 5 (35 * L + c) = q) ∧ z.2.2.2.toInt = (i : Int)) _ ⟨rfl, rfl, fun c => absurd rfl c, fun _ c hc => by omega, rfl⟩ ?_
  rintro i ⟨x1, x2, x3, x4⟩ G hi ⟨k1, k2, k3, n3, k4⟩ hG
  change LB_X7_of_5 G m x1 x2 x3 x4 Q
  dsimp only at k1 k2 k3 k4 n3
  subst k1; subst k2
  unfold LB_X7_of_5
  refine ⟨fun c => ?_, fun c => ?_⟩
  · have c1 : i = 20 := by rw [ti_ge (m := 20) k4 rfl] at c; omega
    subst c1
    exact h _ k3 n3
  have c1 : i < 20 := by rw [ti_ge (m := 20) k4 rfl] at c; omega
  have h35 := ti_35 hl hL k4 (by omega)
  refine ⟨ti_in h35 (by omega), fun c2 => ?_, fun c2 => ?_⟩ <;> rw [ti_cl h35] at c2
  · unfold B_X7_of_37
    intro _ e _ e2
    subst e; subst e2
    refine hG _ c1 ⟨rfl, rfl, ?_, ?_, ti_add k4 (by omega)⟩
    · show ¬ x3 ||| 0 = 0 → _
      rw [Int32.or_zero]
      exact k3
    · show x3 ||| 0 = 0 → _
      rw [Int32.or_zero]
      intro e c hc
      by_cases e2 : c = i
      · subst e2
        exact c2
      · exact n3 e c (by omega)
  · unfold B_X7_of_37
    intro _ e _ e2
    subst e; subst e2
    refine hG _ c1 ⟨rfl, rfl, fun _ => ⟨i, c1, c2⟩, fun e => ?_, ti_add k4 (by omega)⟩
    have hs : ∀ i, i < 20 → ¬ (1 : Int32) <<< (Int32.ofInt (i : Nat) &&& 31) = 0 := by decide +kernel
    have e2 := (or0 e).2
    rw [ti_of k4] at e2
    exact absurd e2 (hs i c1)
theorem s_least {x : Int32} {Q : Int32 → Prop} (h : ∀ r, (r = -9 ∨ (0 ≤ r.toInt ∧ r.toInt < 20) ∧ ¬ x = 0 ∧ (x >>> (r &&& 31)) &&& 1 = 1) → Q r) : wp_X7_least x Q := by
  unfold wp_X7_least B_X7_least_2
  refine LOOP_c 20 (fun i z => z.1 = x ∧ z.2.toInt = (i : Int)) _ ⟨rfl, rfl⟩ ?_
  rintro i ⟨x0, x1⟩ G hi ⟨k1, k2⟩ hG
  change LB_X7_least_2 G x0 x1 Q
  dsimp only at k1 k2
  subst k1
  unfold LB_X7_least_2
  refine ⟨fun _ => h _ (Or.inl rfl), fun c => ?_⟩
  have c1 : i < 20 := by rw [ti_ge (m := 20) k2 rfl] at c; omega
  unfold wp_X7_has
  refine ⟨fun _ => ⟨fun _ => ?_, fun c => absurd rfl c⟩, fun c2 => ⟨fun c => absurd c (by decide), fun _ => ?_⟩⟩
  · intro _ e
    subst e
    exact hG _ c1 ⟨rfl, ti_add k2 (by omega)⟩
  · refine h _ (Or.inr ⟨by omega, fun e => ?_, c2⟩)
    subst e
    rw [ti_of k2, z_shr i c1] at c2
    exact absurd c2 (by decide)
theorem s_takes {a how fr : Int32} {m : CS} {Q : Int32 → Prop} (h : ∀ r, (r = -9 ∨ (0 ≤ r.toInt ∧ r.toInt < 20) ∧ ¬ a = 0) → Q r) : wp_X7_takes a how fr m Q := by
  have g : ∀ t, (a = 0 → t = 0) → B_X7_takes_22 m how fr t Q := by
    intro t ht
    unfold B_X7_takes_22
    refine ⟨fun _ => s_least (fun r hr => h r ?_), fun _ => h _ (Or.inl rfl)⟩
    rcases hr with e | ⟨e, e2, _⟩
    · exact Or.inl e
    · refine Or.inr ⟨e, fun e3 => e2 ?_⟩
      rw [ht e3]
      exact Int32.zero_and
  unfold wp_X7_takes
  refine ⟨fun _ => e_rbeside (g _ (fun e => ?_)), fun _ => g _ (fun e => ?_)⟩
  · subst e
    rfl
  · subst e
    rfl
theorem Ow_in {v : Int32} (h : Ow v) (hn : ¬ v = -9) : ∃ k : Nat, k < 4 ∧ v.toInt = k := by
  rcases h with e | ⟨a, b⟩
  · exact absurd e hn
  · exact ⟨v.toInt.toNat, by omega, by omega⟩
theorem s_isMonks {p : Int32} {k : Nat} {m : CS} {Q : Int32 → Prop} (hp : p.toInt = k) (hk : k < 20) (hm : Mk m) (h : ∀ r, (r = 0 ∨ r = 1) → Q r) : wp_X7_isMonks p m Q := by
  unfold wp_X7_isMonks
  have h5 : (p / 5).toInt = ((k / 5 : Nat) : Int) := ti_div hp (show (5 : Int32).toInt = ((5 : Nat) : Int) from rfl)
  refine ⟨ti_in h5 (by omega), ?_⟩
  intro x2 e
  rw [ti_cl h5] at e
  have ho := hm.2.2.1 (k / 5) (by omega)
  rw [← e] at ho
  refine ⟨fun _ => h _ (Or.inl rfl), fun c => ?_⟩
  obtain ⟨j, hj, hj2⟩ := Ow_in ho c
  exact ⟨ti_in hj2 hj, fun _ => h _ (Or.inl rfl), fun _ => h _ (Or.inr rfl)⟩
theorem s_freePaste {l : Int32} {L : Nat} {m : CS} {Q : Int32 → Prop} (hl : l.toInt = L) (hL : L ≤ 1) (hm : Mk m) (h : ∀ r, Q r) : wp_X7_freePaste l m Q := by
  unfold wp_X7_freePaste
  refine s_of hl hL (fun r _ _ => ?_)
  unfold B_X7_freePaste_10
  refine LOOP_c 20 (fun i z => z.2.toInt = (i : Int)) _ rfl ?_
  rintro i ⟨x2, x3⟩ G hi k1 hG
  change LB_X7_freePaste_10 G m x2 x3 Q
  dsimp only at k1
  unfold LB_X7_freePaste_10
  refine ⟨fun _ => h _, fun c => ?_⟩
  have c1 : i < 20 := by rw [ti_ge (m := 20) k1 rfl] at c; omega
  refine s_isMonks k1 c1 hm (fun r _ => ?_)
  unfold B_X7_freePaste_34
  refine ⟨fun _ => ?_, fun _ => ?_⟩ <;> intro _ _ _ e <;> subst e <;> exact hG _ c1 (ti_add k1 (by omega))
theorem s_pay {l p q v : Int32} {L P : Nat} {m : CS} {Q : CS → Prop} (hl : l.toInt = L) (hL : L ≤ 1) (hp : p.toInt = P) (hP : P < 4) (hq : Ow q) (hm : Mk m) (h : ∀ n, Mk n → Nw m n → (∀ j, j < 30 → n.2.1 5 (35 * L + j) = m.2.1 5 (35 * L + j)) → Q n) : wp_X7_pay l p q v m Q := by
  have a30 := ti_add2 (t35 hl hL) (show (30 : Int32).toInt = ((30 : Nat) : Int) from rfl) (by omega)
  have ap := ti_add2 a30 hp (by omega)
  unfold wp_X7_pay
  refine ⟨ti_in ap (by omega), ti_in ap (by omega), ?_⟩
  intro s3 e3
  rw [ti_cl ap] at e3
  have g3 : Mk s3 := by
    rw [e3, Nat.add_assoc]
    exact Mk_B hm hL (by omega) (fun hb => Bk_far hb (by omega))
  have n3 : Nw m s3 := by
    rw [e3]
    exact Nw_A
  have k3 : ∀ j, j < 30 → s3.2.1 5 (35 * L + j) = m.2.1 5 (35 * L + j) := by
    intro j hj
    rw [e3, sA5]
    exact if_neg (by omega)
  clear e3
  refine ⟨fun _ => h s3 g3 n3 k3, fun c => ?_⟩
  obtain ⟨j, hj, hj2⟩ := Ow_in hq c
  have aq := ti_add2 a30 hj2 (by omega)
  refine ⟨ti_in aq (by omega), ti_in aq (by omega), ?_⟩
  intro s7 e7
  rw [ti_cl aq] at e7
  refine h s7 ?_ ?_ (fun i hi => ?_)
  · rw [e7, Nat.add_assoc]
    exact Mk_B g3 hL (by omega) (fun hb => Bk_far hb (by omega))
  · rw [e7]
    exact Nw_t n3 Nw_A
  · rw [e7, sA5, ← k3 i hi]
    exact if_neg (by omega)
theorem s_grow {l p : Int32} {L h0 : Nat} {m : CS} {Q : CS → Prop} (hl : l.toInt = L) (hL : L ≤ 1) (hp : p.toInt = h0) (hh : h0 < 5) (hm : Mk m) (h : ∀ n, Mk n → Nw m n → Q n) : wp_X7_grow l p m Q := by
  unfold wp_X7_grow
  refine s_of hl hL (fun r hr _ => ⟨ti_in hp hh, ?_⟩)
  refine s_freePaste hl hL hm (fun r5 => ?_)
  refine s_takes (fun r6 hr6 => ⟨fun _ => h m hm (Nw_r m), fun c => ?_⟩)
  obtain ⟨⟨b1, b2⟩, b3⟩ := hr6.resolve_left c
  obtain ⟨cc, hcc, hcc2⟩ := hr b3
  obtain ⟨k, hk⟩ := nat_of b1
  have h5 : (r6 / 5).toInt = ((k / 5 : Nat) : Int) := ti_div hk (show (5 : Int32).toInt = ((5 : Nat) : Int) from rfl)
  have hb := hm.2.2.2.1 L hL
  have own : ¬ m.2.1 5 (35 * L + 20 + h0) = -9 := by
    rcases hb.1 cc hcc with a | a | ⟨g, g1, g2, g3⟩
    · rw [hcc2] at a
      rw [a] at hp
      have : (7 : Int32).toInt = 7 := rfl
      omega
    · rw [hcc2] at a
      rw [a] at hp
      have : (8 : Int32).toInt = 8 := rfl
      omega
    · rw [hcc2] at g2
      have e : g = h0 := by omega
      subst e
      exact g3
  obtain ⟨w, hw, hw2⟩ := Ow_in (hb.2 h0 (by omega)) own
  refine ⟨ti_in h5 (by omega), ?_⟩
  intro x4 e4
  rw [ti_cl h5] at e4
  have a20 := ti_add2 (ti_add2 (t35 hl hL) (show (20 : Int32).toInt = ((20 : Nat) : Int) from rfl) (by omega)) hp (by omega)
  refine ⟨ti_in a20 (by omega), ?_⟩
  intro x5 e5
  rw [ti_cl a20] at e5
  have fin : ∀ n, Mk n → Nw m n → ¬ n.2.1 5 (35 * L + 20 + h0) = -9 → B_X7_grow_71 l p r6 n Q := by
    intro n hn hn2 hn3
    unfold B_X7_grow_71
    have a35 := ti_add2 (t35 hl hL) hk (by omega)
    refine ⟨ti_in a35 (by omega), ?_⟩
    intro s2 e2
    rw [ti_cl a35] at e2
    subst e2
    exact h _ (Mk_B hn hL (by omega) (fun hb => Bk_cell hb (by omega) (Or.inr (Or.inr ⟨h0, hh, hp, hn3⟩)))) (Nw_t hn2 Nw_A)
  refine ⟨fun _ => fin m hm (Nw_r m) own, fun _ => ?_⟩
  refine s_pay hl hL (by rw [e5]; exact hw2) hw (by rw [e4]; exact hm.2.2.1 _ (by omega)) hm (fun n hn hn2 hn3 => fin n hn hn2 ?_)
  rw [Nat.add_assoc, hn3 _ (by omega), ← Nat.add_assoc]
  exact own
theorem s_endHole {l p : Int32} {L h0 : Nat} {m : CS} {Q : CS → Prop} (hl : l.toInt = L) (hL : L ≤ 1) (hp : p.toInt = h0) (hh : h0 < 5) (hm : Mk m) (hn : ∀ c, c < 20 → ¬ (m.2.1 5 (35 * L + c)).toInt = (h0 : Int)) (h : ∀ n, Mk n → Nw m n → Q n) : wp_X7_endHole l p m Q := by
  unfold wp_X7_endHole
  have a20 := ti_add2 (ti_add2 (t35 hl hL) (show (20 : Int32).toInt = ((20 : Nat) : Int) from rfl) (by omega)) hp (by omega)
  have a25 := ti_add2 (ti_add2 (t35 hl hL) (show (25 : Int32).toInt = ((25 : Nat) : Int) from rfl) (by omega)) hp (by omega)
  refine ⟨ti_in a20 (by omega), ?_⟩
  intro s2 e2
  rw [ti_cl a20] at e2
  have g2 : Mk s2 := by
    rw [e2, Nat.add_assoc]
    refine Mk_B hm hL (by omega) (fun hb => ?_)
    rw [← Nat.add_assoc]
    exact Bk_end hb hh hn
  have n2 : Nw m s2 := by
    rw [e2]
    exact Nw_A
  refine ⟨ti_in a25 (by omega), ?_⟩
  intro s4 e4
  rw [ti_cl a25] at e4
  subst e4
  refine h _ ?_ (Nw_t n2 Nw_A)
  rw [Nat.add_assoc]
  refine Mk_B g2 hL (by omega) (fun hb => ?_)
  rw [← Nat.add_assoc]
  exact Bk_let hb hh (Or.inl rfl)
