def rb (p : Int32) : Int32 := ((((p <<< ((5 : Int32) &&& 31)) ||| (p >>> ((5 : Int32) &&& 31))) ||| ((p &&& ((33825 : Int32) ^^^ (-1 : Int32))) >>> ((1 : Int32) &&& 31))) ||| ((p &&& (((33825 : Int32) <<< ((4 : Int32) &&& 31)) ^^^ (-1 : Int32))) <<< ((1 : Int32) &&& 31))) &&& (1048575 : Int32)
theorem lf_step : ∀ i, i < 4 → Int32.ofNat ((32 ^ i - 1) / 31) ||| ((1 : Int32) <<< (((5 : Int32) * Int32.ofInt (i : Nat)) &&& 31)) = Int32.ofNat ((32 ^ (i + 1) - 1) / 31) := by decide +kernel
theorem e_rbeside {p : Int32} {Q : Int32 → Prop} (h : Q (rb p)) : wp_X7_beside p Q := by
  unfold wp_X7_beside
  intro x1 e1
  unfold B_X7_beside_12
  refine LOOP_c 4 (fun i z => z.1 = p ∧ z.2.1 = x1 ∧ z.2.2.1 = Int32.ofNat ((32 ^ i - 1) / 31) ∧ z.2.2.2.toInt = (i : Int)) _ ⟨rfl, rfl, rfl, rfl⟩ ?_
  rintro i ⟨y0, y1, y2, y3⟩ G hi ⟨k1, k2, k3, k4⟩ hG
  change LB_X7_beside_12 G y0 y1 y2 y3 Q
  dsimp only at k1 k2 k3 k4
  subst k1; subst k2
  unfold LB_X7_beside_12
  refine ⟨fun c => ?_, fun c => ?_⟩
  · have c1 : i = 4 := by rw [ti_ge (m := 4) k4 rfl] at c; omega
    subst c1
    subst k3
    subst e1
    exact h
  have c1 : i < 4 := by rw [ti_ge (m := 4) k4 rfl] at c; omega
  intro _ e _ e2
  subst e; subst e2
  refine hG _ c1 ⟨rfl, rfl, ?_, ti_add k4 (by omega)⟩
  show y2 ||| ((1 : Int32) <<< (((5 : Int32) * y3) &&& 31)) = _
  rw [k3, ti_of k4]
  exact lf_step i c1
theorem adj_iff : ∀ k, k < 20 → ∀ e, e < 20 → ((((rb ((1 : Int32) <<< (Int32.ofInt (k : Nat) &&& 31))) >>> (Int32.ofInt (e : Nat) &&& 31)) &&& (1 : Int32)) = 1 ↔ ds k e = 1) := by decide +kernel
theorem e_adj {x y : Int32} {k e : Nat} {Q : Int32 → Prop} (hx : x.toInt = k) (hk : k < 20) (hy : y.toInt = e) (he : e < 20) (h1 : ds k e = 1 → Q 1) (h0 : ¬ ds k e = 1 → Q 0) : wp_X7_has (rb ((1 : Int32) <<< (x &&& 31))) y Q := by
  unfold wp_X7_has
  rw [ti_of hx, ti_of hy, adj_iff k hk e he]
  exact ⟨h0, h1⟩
def Mg (s : CS) : Prop := (∀ k, k < 20 → s.2.1 5 k = 7) ∧ ∀ r, r < 4 → s.2.1 3 r = -9
theorem Mg_A {s : CS} {j : Nat} {v : Int32} (h : Mg s) : Mg (sA s 20 j v) := by
  refine ⟨fun k hk => ?_, fun r hr => ?_⟩
  · rw [sA_ne (by decide)]
    exact h.1 k hk
  · rw [sA_ne (by decide)]
    exact h.2 r hr
theorem e_cost {x : Int32} {k : Nat} {s : CS} {Q : Int32 → Prop} (hx : x.toInt = k) (hk : k < 20) (hs : Mg s) (h : Q 1) : wp_X7_costOf x s Q := by
  unfold wp_X7_costOf
  refine ⟨ti_in hx (by omega), fun _ => ?_, fun c => absurd ?_ c⟩
  · unfold wp_X7_isMonks
    have h5 : (x / 5).toInt = ((k / 5 : Nat) : Int) := ti_div hx (show (5 : Int32).toInt = ((5 : Nat) : Int) from rfl)
    refine ⟨ti_in h5 (by omega), ?_⟩
    intro x2 e
    rw [ti_cl h5, hs.2 _ (by omega)] at e
    exact ⟨fun _ => ⟨fun _ => h, fun c => absurd rfl c⟩, fun c => absurd e c⟩
  · rw [ti_cl hx]
    exact hs.1 k hk
def Iv (c U : Nat) (g : FA) : Prop := ∀ e, e < 20 → g e = -9 ∨ (((ds c e + 1 : Nat) : Int) ≤ (g e).toInt ∧ (g e).toInt ≤ (U : Int))
def Ex (c : Nat) (g : FA) (e : Nat) : Prop := (g e).toInt = ((ds c e + 1 : Nat) : Int)
theorem Iv_up {c U V : Nat} {g : FA} (h : Iv c U g) (hu : U ≤ V) : Iv c V g := by
  intro e he
  rcases h e he with a | ⟨a, b⟩
  · exact Or.inl a
  · exact Or.inr ⟨a, by omega⟩
theorem n9 : (-9 : Int32).toInt = -9 := rfl
theorem Ex_n {c : Nat} {g : FA} {e : Nat} (h : Ex c g e) : ¬ g e = -9 := by
  intro a
  unfold Ex at h
  rw [a, n9] at h
  omega
abbrev Es (c k U n : Nat) (g0 : FA) (r : Int32) (s : CS) : Prop := (Mg s) ∧ (Iv c U (s.2.1 20)) ∧ (∀ e, e < 20 → Ex c g0 e → Ex c (s.2.1 20) e) ∧ (Ex c g0 k → ∀ e, e < n → ds k e = 1 → ds c k < ds c e → Ex c (s.2.1 20) e) ∧ (r = 0 → s.2.1 20 = g0 ∧ (¬ g0 k = -9 → ∀ e, e < n → ds k e = 1 → ¬ g0 e = -9 ∧ (g0 e).toInt ≤ (g0 k).toInt + 1)) ∧ (s.2.1 20 k = g0 k) ∧ ((∀ e, e < 20 → Ex c g0 e) → r = 0) ∧ (r = 0 ∨ r = 1)
theorem Es.m {c k U n : Nat} {g0 : FA} {r : Int32} {s : CS} (h : Es c k U n g0 r s) : Mg s := h.1
theorem Es.i {c k U n : Nat} {g0 : FA} {r : Int32} {s : CS} (h : Es c k U n g0 r s) : Iv c U (s.2.1 20) := h.2.1
theorem Es.mono {c k U n : Nat} {g0 : FA} {r : Int32} {s : CS} (h : Es c k U n g0 r s) : ∀ e, e < 20 → Ex c g0 e → Ex c (s.2.1 20) e := h.2.2.1
theorem Es.prog {c k U n : Nat} {g0 : FA} {r : Int32} {s : CS} (h : Es c k U n g0 r s) : Ex c g0 k → ∀ e, e < n → ds k e = 1 → ds c k < ds c e → Ex c (s.2.1 20) e := h.2.2.2.1
theorem Es.clos {c k U n : Nat} {g0 : FA} {r : Int32} {s : CS} (h : Es c k U n g0 r s) : r = 0 → s.2.1 20 = g0 ∧ (¬ g0 k = -9 → ∀ e, e < n → ds k e = 1 → ¬ g0 e = -9 ∧ (g0 e).toInt ≤ (g0 k).toInt + 1) := h.2.2.2.2.1
theorem Es.same {c k U n : Nat} {g0 : FA} {r : Int32} {s : CS} (h : Es c k U n g0 r s) : s.2.1 20 k = g0 k := h.2.2.2.2.2.1
theorem Es.all {c k U n : Nat} {g0 : FA} {r : Int32} {s : CS} (h : Es c k U n g0 r s) : (∀ e, e < 20 → Ex c g0 e) → r = 0 := h.2.2.2.2.2.2.1
theorem Es.b {c k U n : Nat} {g0 : FA} {r : Int32} {s : CS} (h : Es c k U n g0 r s) : r = 0 ∨ r = 1 := h.2.2.2.2.2.2.2
theorem e_ease {c k U : Nat} {p : Int32} {s0 : CS} {Q : Int32 → CS → Prop} (hc : c < 20) (hk : k < 20) (hp : p.toInt = k) (hU : U < 1000000) (hM : Mg s0) (hI : Iv c U (s0.2.1 20)) (h : ∀ r s, Es c k (U + 20) 20 (s0.2.1 20) r s → Q r s) : wp_X7_ease p s0 Q := by
  unfold wp_X7_ease B_X7_ease_4
  refine LOOP_c 20 (fun e z => z.1 = p ∧ z.2.2.1.toInt = (e : Int) ∧ Es c k (U + e) e (s0.2.1 20) z.2.1 z.2.2.2) _ ⟨rfl, rfl, ⟨hM, hI, fun _ _ x => x, fun _ e he => by omega, fun _ => ⟨rfl, fun _ e he => by omega⟩, rfl, fun _ => rfl, Or.inl rfl⟩⟩ ?_
  rintro e ⟨x1, x2, x3, s⟩ G hi ⟨k1, k2, k3⟩ hG
  change LB_X7_ease_4 G x1 x2 x3 s Q
  dsimp only at k1 k2 k3
  subst k1
  unfold LB_X7_ease_4
  refine ⟨fun c1 => ⟨nar_ok k3.b, ?_⟩, fun c1 => ?_⟩
  · have e20 : e = 20 := by rw [ti_ge (m := 20) k2 rfl] at c1; omega
    subst e20
    exact h _ _ k3
  have he : e < 20 := by rw [ti_ge (m := 20) k2 rfl] at c1; omega
  have up1 : Iv c (U + (e + 1)) (s.2.1 20) := Iv_up k3.i (by omega)
  have skip : (Ex c (s0.2.1 20) k → ds k e = 1 → ds c k < ds c e → Ex c (s.2.1 20) e) → (x2 = 0 → ¬ s0.2.1 20 k = -9 → ds k e = 1 → ¬ s0.2.1 20 e = -9 ∧ (s0.2.1 20 e).toInt ≤ (s0.2.1 20 k).toInt + 1) → B_X7_ease_108 G x1 x2 x3 s Q := by
    intro a b
    unfold B_X7_ease_108
    intro _ e1
    subst e1
    refine hG _ he ⟨rfl, ti_add k2 (by omega), ⟨k3.m, up1, k3.mono, fun x e' he' y z => ?_, fun x => ⟨(k3.clos x).1, fun y e' he' z => ?_⟩, k3.same, k3.all, k3.b⟩⟩
    · by_cases q : e' = e
      · subst q
        exact a x y z
      · exact k3.prog x e' (by omega) y z
    · by_cases q : e' = e
      · subst q
        exact b x y z
      · exact (k3.clos x).2 y e' (by omega) z
  have sk0 : (s.2.1 20 k = -9 ∨ ¬ ds k e = 1) → B_X7_ease_48 G x1 x2 x3 s Q := by
    intro a
    unfold B_X7_ease_48 B_X7_ease_49
    refine ⟨fun _ => skip (fun x y z => ?_) (fun x y z => ?_), fun c => absurd rfl c⟩
    · rcases a with a | a
      · exact absurd (k3.same ▸ a) (Ex_n x)
      · exact absurd y a
    · rcases a with a | a
      · exact absurd (k3.same ▸ a) y
      · exact absurd z a
  refine ⟨ti_in hp hk, fun c2 => ?_, fun c2 => ?_⟩
  · rw [ti_cl hp] at c2
    exact sk0 (Or.inl c2)
  rw [ti_cl hp] at c2
  refine e_rbeside ?_
  refine e_adj hp hk k2 he (fun ad => ⟨fun c => absurd c (by decide), fun _ => ?_⟩) (fun ad => ⟨fun _ => sk0 (Or.inr ad), fun c => absurd rfl c⟩)
  refine e_cost k2 he k3.m ⟨fun c => absurd c (by decide), fun _ => ?_⟩
  have hke : ¬ k = e := by
    intro q
    subst q
    rw [ds_self] at ad
    exact absurd ad (by decide)
  have tri := ds_tri c hc k hk e he ad
  have ivk : ((ds c k + 1 : Nat) : Int) ≤ (s.2.1 20 k).toInt ∧ (s.2.1 20 k).toInt ≤ ((U + e : Nat) : Int) := (k3.i k hk).resolve_left c2
  have sum : (s.2.1 20 k + 1).toInt = (s.2.1 20 k).toInt + 1 := by
    have e1 : (1 : Int32).toInt = 1 := rfl
    rw [Int32.toInt_add, e1, Int.bmod_eq_of_le (by omega) (by omega)]
  have upd8 : (s.2.1 20 e = -9 ∨ (s.2.1 20 k).toInt + 1 < (s.2.1 20 e).toInt) → B_X7_ease_88 G x1 x3 s Q := by
    intro a
    have nE : ¬ Ex c (s.2.1 20) e := by
      intro x
      rcases a with a | a
      · exact Ex_n x a
      · unfold Ex at x
        omega
    unfold B_X7_ease_88
    refine ⟨ti_in hp hk, e_cost k2 he k3.m ⟨ti_in k2 he, ?_⟩⟩
    intro s5 e5
    rw [ti_cl k2, ti_cl hp] at e5
    have get : ∀ j, s5.2.1 20 j = if j = e then s.2.1 20 k + 1 else s.2.1 20 j := by
      intro j
      rw [e5]
      exact sA_get
    have mo : ∀ j, j < 20 → Ex c (s.2.1 20) j → Ex c (s5.2.1 20) j := by
      intro j hj x
      have q : ¬ j = e := by
        intro q
        subst q
        exact nE x
      unfold Ex
      rw [get, if_neg q]
      exact x
    unfold B_X7_ease_108
    intro _ e1
    subst e1
    refine hG _ he ⟨rfl, ti_add k2 (by omega), ⟨?_, ?_, fun j hj x => mo j hj (k3.mono j hj x), fun x e' he' y z => ?_, fun x => absurd x (show ¬ (1 : Int32) = 0 by decide), ?_, fun x => absurd (k3.mono e he (x e he)) nE, Or.inr rfl⟩⟩
    · show Mg s5
      rw [e5]
      exact Mg_A k3.m
    · show Iv c (U + (e + 1)) (s5.2.1 20)
      intro j hj
      rw [get]
      by_cases q : j = e
      · subst q
        rw [if_pos rfl, sum]
        exact Or.inr (by omega)
      · rw [if_neg q]
        exact up1 j hj
    · show Ex c (s5.2.1 20) e'
      by_cases q : e' = e
      · subst q
        unfold Ex at x ⊢
        rw [get, if_pos rfl, sum, k3.same]
        omega
      · exact mo e' (by omega) (k3.prog x e' (by omega) y z)
    · show s5.2.1 20 k = s0.2.1 20 k
      rw [get, if_neg hke]
      exact k3.same
  unfold B_X7_ease_49
  refine ⟨fun c => absurd c (by decide), fun _ => ⟨ti_in k2 he, fun c3 => ?_, fun c3 => ⟨ti_in hp hk, ?_⟩⟩⟩
  · rw [ti_cl k2] at c3
    exact upd8 (Or.inl c3)
  rw [ti_cl k2] at c3
  have ive : ((ds c e + 1 : Nat) : Int) ≤ (s.2.1 20 e).toInt ∧ (s.2.1 20 e).toInt ≤ ((U + e : Nat) : Int) := (k3.i e he).resolve_left c3
  refine e_cost k2 he k3.m ⟨ti_in k2 he, ?_⟩
  rw [ti_cl k2, ti_cl hp, Int32.le_iff_toInt_le, sum]
  refine ⟨fun c4 => skip (fun x y z => ?_) (fun x y z => ?_), fun c4 => upd8 (Or.inr (by omega))⟩
  · unfold Ex at x ⊢
    rw [← k3.same] at x
    omega
  · rw [(k3.clos x).1] at c3 c4
    exact ⟨c3, c4⟩
abbrev Sw (c U n : Nat) (g0 : FA) (r : Int32) (s : CS) : Prop := (Mg s) ∧ (Iv c U (s.2.1 20)) ∧ (∀ e, e < 20 → Ex c g0 e → Ex c (s.2.1 20) e) ∧ (∀ j, j < n → Ex c g0 j → ∀ e, e < 20 → ds j e = 1 → ds c j < ds c e → Ex c (s.2.1 20) e) ∧ (r = 0 → s.2.1 20 = g0 ∧ ∀ j, j < n → ¬ g0 j = -9 → ∀ e, e < 20 → ds j e = 1 → ¬ g0 e = -9 ∧ (g0 e).toInt ≤ (g0 j).toInt + 1) ∧ ((∀ e, e < 20 → Ex c g0 e) → r = 0) ∧ (r = 0 ∨ r = 1)
theorem e_sweep {c U : Nat} {q : Int32} {s0 : CS} {G : (Int32 × Int32 × CS) → Prop} {Q : Int32 → CS → Prop} (hc : c < 20) (hU : U < 500000) (hM : Mg s0) (hI : Iv c U (s0.2.1 20)) (h : ∀ r s, Sw c (U + 400) 20 (s0.2.1 20) r s → G (q, r, s)) : B_X7_gnaw_82 G q 0 0 s0 Q := by
  unfold B_X7_gnaw_82
  refine LOOP_c 20 (fun k z => z.1 = q ∧ z.2.2.1.toInt = (k : Int) ∧ Sw c (U + 20 * k) k (s0.2.1 20) z.2.1 z.2.2.2) _ ⟨rfl, rfl, hM, hI, fun _ _ x => x, fun j hj => by omega, fun _ => ⟨rfl, fun j hj => by omega⟩, fun _ => rfl, Or.inl rfl⟩ ?_
  rintro k ⟨x2, x3, x4, s⟩ G2 hi ⟨k1, k2, hm, hv, mono, prog, clos, all, b⟩ hG
  change LB_X7_gnaw_82 G2 G x2 x3 x4 s Q
  dsimp only at k1 k2 hm hv mono prog clos all b
  subst k1
  unfold LB_X7_gnaw_82
  refine ⟨fun c1 => ?_, fun c1 => ?_⟩
  · have e20 : k = 20 := by rw [ti_ge (m := 20) k2 rfl] at c1; omega
    subst e20
    exact h _ _ ⟨hm, hv, mono, prog, clos, all, b⟩
  have hk : k < 20 := by rw [ti_ge (m := 20) k2 rfl] at c1; omega
  refine e_ease hc hk k2 (by omega) hm hv (fun r s2 es => ?_)
  have mono2 : ∀ e, e < 20 → Ex c (s0.2.1 20) e → Ex c (s2.2.1 20) e := fun e he x => es.mono e he (mono e he x)
  have prog2 : ∀ j, j < k + 1 → Ex c (s0.2.1 20) j → ∀ e, e < 20 → ds j e = 1 → ds c j < ds c e → Ex c (s2.2.1 20) e := by
    intro j hj x e he y z
    by_cases w : j = k
    · subst w
      exact es.prog (mono j hk x) e he y z
    · exact es.mono e he (prog j (by omega) x e he y z)
  have go : ∀ t : Int32, (t = 0 ∨ t = 1) → (t = 0 → r = 0 ∧ x3 = 0) → (r = 0 → x3 = 0 → t = 0) → B_X7_gnaw_107 G G2 x2 x4 t s2 Q := by
    intro t tb t1 t2
    unfold B_X7_gnaw_107
    intro _ e1
    subst e1
    refine hG _ hk ⟨rfl, ti_add k2 (by omega), es.m, ?_, mono2, prog2, fun x => ?_, fun x => ?_, tb⟩
    · rw [show U + 20 * (k + 1) = U + 20 * k + 20 by omega]
      exact es.i
    · obtain ⟨y1, y2⟩ := t1 x
      refine ⟨(es.clos y1).1.trans (clos y2).1, fun j hj y e he z => ?_⟩
      by_cases w : j = k
      · subst w
        have := (es.clos y1).2
        rw [(clos y2).1] at this
        exact this y e he z
      · exact (clos y2).2 j (by omega) y e he z
    · refine t2 (es.all (fun e he => mono e he (x e he))) (all x)
  refine ⟨fun c2 => ?_, fun c2 => ⟨fun c3 => ?_, fun c3 => ?_⟩⟩
  · unfold B_X7_gnaw_102
    exact go 1 (Or.inr rfl) (fun c => absurd c (by decide)) (fun c => absurd c c2)
  · exact go 0 (Or.inl rfl) (fun _ => ⟨c2, c3⟩) (fun _ _ => rfl)
  · unfold B_X7_gnaw_102
    exact go 1 (Or.inr rfl) (fun c => absurd c (by decide)) (fun _ c => absurd c c3)
theorem all_ex {c : Nat} {g : FA} {U : Nat} (hc : c < 20) (hI : Iv c U g) (h0 : Ex c g c) (hcl : ∀ j, j < 20 → ¬ g j = -9 → ∀ e, e < 20 → ds j e = 1 → ¬ g e = -9 ∧ (g e).toInt ≤ (g j).toInt + 1) : ∀ n, ∀ e, e < 20 → ds c e = n → Ex c g e := by
  intro n
  induction n with
  | zero =>
    intro e he hd
    by_cases q : c = e
    · subst q
      exact h0
    · obtain ⟨k, _, _, hk⟩ := ds_nbr c hc e he q
      omega
  | succ n ih =>
    intro e he hd
    have q : ¬ c = e := by
      intro q
      subst q
      rw [ds_self] at hd
      omega
    obtain ⟨k, hk, hk2, hk3⟩ := ds_nbr c hc e he q
    have xk := ih k hk (by omega)
    obtain ⟨a1, a2⟩ := hcl k hk (Ex_n xk) e he hk2
    have a3 := (hI e he).resolve_left a1
    unfold Ex at xk ⊢
    omega
theorem r_gnaw {p q : Int32} {Q : Int32 → CS → Prop} (h : ∀ m, Q (wayF p q (gv p q)) m) : wp_X7_gnaw p q m0 Q := by
  unfold wp_X7_gnaw
  unfold wayF at h
  refine e_isCell (fun a => ⟨fun c => absurd c (by decide), fun _ => ?_⟩) (fun a => ⟨fun _ => ?_, fun c => absurd rfl c⟩)
  · rw [if_pos a] at h
    refine e_isCell (fun a2 => ⟨fun _ => ⟨fun c => ?_, fun c => ?_⟩, fun c => absurd c (by decide)⟩) (fun a2 => ⟨fun c => absurd rfl c, fun _ => ?_⟩)
    · rw [if_pos a2, if_neg c] at h
      obtain ⟨k, hk, hk2, hk3⟩ := isC_n a
      obtain ⟨j, hj, hj2, hj3⟩ := isC_n a2
      have hgv : gv p q = Int32.ofInt ((ds k j + 1 : Nat) : Int) := by
        unfold gv
        rw [hk2, hj2]
        rfl
      have hM0 : Mg m0 := by
        refine ⟨m0n, fun r hr => ?_⟩
        show (if r < 4 then (-9 : Int32) else 0) = -9
        rw [if_pos hr]
      have lp : ∀ s : CS, Mg s → s.2.1 20 k = 1 → (∀ e, e < 20 → ¬ e = k → s.2.1 20 e = -9) → B_X7_gnaw_73 q 1 s Q := by
        intro s hs g1 g2
        unfold B_X7_gnaw_73
        refine LOOP_c 8 (fun t z => z.1 = q ∧ (z.2.1 = 0 ∨ z.2.1 = 1) ∧ Mg z.2.2 ∧ Iv k (1 + 400 * t) (z.2.2.2.1 20) ∧ (∀ e, e < 20 → ds k e ≤ t → Ex k (z.2.2.2.1 20) e) ∧ (z.2.1 = 0 → ∀ e, e < 20 → Ex k (z.2.2.2.1 20) e) ∧ (8 ≤ t → z.2.1 = 0)) _ ⟨rfl, Or.inr rfl, hs, ?_, ?_, fun c => absurd c (show ¬ (1 : Int32) = 0 by decide), fun c => by omega⟩ ?_
        · intro e he
          by_cases w : e = k
          · subst w
            right
            show ((ds e e + 1 : Nat) : Int) ≤ (s.2.1 20 e).toInt ∧ (s.2.1 20 e).toInt ≤ _
            rw [g1, ds_self]
            decide
          · exact Or.inl (g2 e he w)
        · intro e he hd
          by_cases w : k = e
          · subst w
            show (s.2.1 20 k).toInt = _
            rw [g1, ds_self]
            rfl
          · obtain ⟨k', _, _, hk'⟩ := ds_nbr k hk e he w
            omega
        rintro t ⟨x2, x3, s1⟩ G hi ⟨l1, l2, l3, l4, l5, l6, l7⟩ hG
        change LB_X7_gnaw_73 G x2 x3 s1 Q
        dsimp only at l1 l2 l3 l4 l5 l6 l7
        subst l1
        unfold LB_X7_gnaw_73
        refine ⟨fun c2 => ⟨ti_in hj2 hj, ?_⟩, fun c2 => ?_⟩
        · have x := l6 c2 j hj
          rw [ti_cl hj2, ti_of x, ← hgv]
          exact h _
        · have t8 : t < 8 := by
            refine Classical.byContradiction (fun c3 => c2 (l7 (by omega)))
          refine e_sweep hk (by omega) l3 l4 (fun r s2 sw => ?_)
          obtain ⟨w1, w2, w3, w4, w5, w6, w7⟩ := sw
          refine hG _ t8 ⟨rfl, w7, w1, ?_, ?_, ?_, ?_⟩
          · rw [show 1 + 400 * (t + 1) = 1 + 400 * t + 400 by omega]
            exact w2
          · intro e he hd
            show Ex k (s2.2.1 20) e
            by_cases y : ds k e ≤ t
            · exact w3 e he (l5 e he y)
            · have ne : ¬ k = e := by
                intro y2
                subst y2
                rw [ds_self] at y
                omega
              obtain ⟨k', hk', hk2', hk3'⟩ := ds_nbr k hk e he ne
              exact w4 k' hk' (l5 k' hk' (by omega)) e he hk2' (by omega)
          · intro y e he
            show Ex k (s2.2.1 20) e
            obtain ⟨y1, y2⟩ := w5 y
            rw [y1]
            exact all_ex hk l4 (l5 k hk (by rw [ds_self]; omega)) y2 _ e he rfl
          · intro y
            exact w6 (fun e he => l5 e he (by have := ds_le k hk e he; omega))
      unfold B_X7_gnaw_25
      refine LOOP_c 20 (fun i z => z.1 = p ∧ z.2.1 = q ∧ z.2.2.1.toInt = (i : Int) ∧ Mg z.2.2.2 ∧ ∀ e, e < i → z.2.2.2.2.1 20 e = -9) _ ⟨rfl, rfl, rfl, hM0, fun e he => by omega⟩ ?_
      rintro i ⟨x1, x2, x3, s⟩ G hi ⟨l1, l2, l3, l4, l5⟩ hG
      change LB_X7_gnaw_25 G x1 x2 x3 s Q
      dsimp only at l1 l2 l3 l4 l5
      subst l1; subst l2
      unfold LB_X7_gnaw_25
      refine ⟨fun c2 => ?_, fun c2 => ?_⟩
      · have e20 : i = 20 := by rw [ti_ge (m := 20) l3 rfl] at c2; omega
        subst e20
        refine e_cost hk2 hk l4 ⟨ti_in hk2 hk, ?_⟩
        intro s2 e2
        rw [ti_cl hk2] at e2
        have g1 : s2.2.1 20 k = 1 := by
          rw [e2, sA_get, if_pos rfl]
        refine ⟨ti_in hk2 hk, fun c3 => ?_, fun c3 => ?_⟩
        · rw [ti_cl hk2, g1] at c3
          exact absurd c3 (by decide)
        · unfold B_X7_gnaw_72
          refine lp s2 ?_ g1 (fun e he ne => ?_)
          · rw [e2]
            exact Mg_A l4
          · rw [e2, sA_get, if_neg ne]
            exact l5 e he
      · have c1 : i < 20 := by rw [ti_ge (m := 20) l3 rfl] at c2; omega
        refine ⟨ti_in l3 c1, ?_⟩
        intro s2 e2 _ e3
        subst e3
        rw [ti_cl l3] at e2
        refine hG _ c1 ⟨rfl, rfl, ti_add l3 (by omega), ?_, fun e he => ?_⟩
        · show Mg s2
          rw [e2]
          exact Mg_A l4
        · show s2.2.1 20 e = -9
          rw [e2, sA_get]
          by_cases w : e = i
          · rw [if_pos w]
          · rw [if_neg w]
            exact l5 e (by omega)
    · rw [if_pos a2, if_pos c] at h
      exact h _
    · rw [if_neg a2] at h
      exact h _
  · rw [if_neg a] at h
    exact h _
