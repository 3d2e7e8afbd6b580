theorem ti_div {x y : Int32} {i j : Nat} (h : x.toInt = i) (h2 : y.toInt = j) : (x / y).toInt = ((i / j : Nat) : Int) := by
  have hx := x.toInt_lt
  have hd : (i / j : Nat) ≤ i := Nat.div_le_self i j
  rw [Int32.toInt_div, h, h2, ← Int.ofNat_tdiv]
  generalize i / j = q at hd ⊢
  rw [Int.bmod_eq_of_le (by omega) (by omega)]
theorem ti_mul {x y : Int32} {i j : Nat} (h : x.toInt = i) (h2 : y.toInt = j) (hi : i * j < 2147483648) : (x * y).toInt = ((i * j : Nat) : Int) := by
  rw [Int32.toInt_mul, h, h2, ← Int.natCast_mul, Int.bmod_eq_of_le (by omega) (by omega)]
theorem ti_sub {x y : Int32} {i j : Nat} (h : x.toInt = i) (h2 : y.toInt = j) (hi : j ≤ i) : (x - y).toInt = ((i - j : Nat) : Int) := by
  have hx := x.toInt_lt
  rw [Int32.toInt_sub, Int.bmod_eq_of_le (by omega) (by omega)]
  omega
theorem tl_div {x y : Int64} {i j : Nat} (h : x.toInt = i) (h2 : y.toInt = j) : (x / y).toInt = ((i / j : Nat) : Int) := by
  have hx := x.toInt_lt
  have hd : (i / j : Nat) ≤ i := Nat.div_le_self i j
  rw [Int64.toInt_div, h, h2, ← Int.ofNat_tdiv]
  generalize i / j = q at hd ⊢
  rw [Int.bmod_eq_of_le (by omega) (by omega)]
theorem tl_mul {x y : Int64} {i j : Nat} (h : x.toInt = i) (h2 : y.toInt = j) (hi : i * j < 9223372036854775808) : (x * y).toInt = ((i * j : Nat) : Int) := by
  rw [Int64.toInt_mul, h, h2, ← Int.natCast_mul, Int.bmod_eq_of_le (by omega) (by omega)]
theorem tl_sub {x y : Int64} {i j : Nat} (h : x.toInt = i) (h2 : y.toInt = j) (hi : j ≤ i) : (x - y).toInt = ((i - j : Nat) : Int) := by
  have hx := x.toInt_lt
  rw [Int64.toInt_sub, Int.bmod_eq_of_le (by omega) (by omega)]
  omega
theorem tl_32 {x : Int64} {i : Nat} (h : x.toInt = i) (hi : i < 2147483648) : x.toInt32.toInt = (i : Int) := by
  rw [Int64.toInt_toInt32, h, Int.bmod_eq_of_le (by omega) (by omega)]
theorem ti_z {x : Int32} {i : Nat} (h : x.toInt = i) : x = 0 ↔ i = 0 := by
  constructor
  · intro e
    subst e
    have : (0 : Int32).toInt = 0 := rfl
    omega
  · intro e
    subst e
    exact ti_of h
theorem tl_z {x : Int64} {i : Nat} (h : x.toInt = i) : x = 0 ↔ i = 0 := by
  constructor
  · intro e
    subst e
    have : (0 : Int64).toInt = 0 := rfl
    omega
  · intro e
    subst e
    rw [← Int64.ofInt_toInt x, h]
    rfl
theorem e_doTold {p : Int32} {w d : CS} {Q : Int32 → CS → CS → Prop} (hw : Wz w) (hd : Dz d) (h1 : p = 0 → Q 1 (sI w 5 (w.1 5 + 1)) d) (h0 : ¬ p = 0 → Q 0 w d) : wp_X5_doTold p w d Q := by
  unfold wp_X5_doTold
  intro x3 _ x4 _
  have nz : ∀ v : Int32, ¬ v = 0 → p / 1000 = v → Q 0 w d := by
    intro v hv e
    refine h0 (fun e2 => hv ?_)
    subst e2
    rw [← e]
    rfl
  refine ⟨fun c => ⟨fun c2 => e_passDay hd.1 hd.2 hw.1 (h1 c2), fun c2 => h0 c2⟩, fun c => ?_⟩
  have hQ : Q 0 w d := h0 (fun e2 => c (by subst e2; rfl))
  refine ⟨fun _ => ?_, fun _ => ⟨fun _ => ?_, fun _ => ⟨fun _ => ?_, fun _ => hQ⟩⟩⟩
  · unfold wp_X5_refusalToEat
    exact e_noOwner hd.1 ⟨fun _ => ⟨fun c => absurd c (by decide), fun _ => hQ⟩, fun c => absurd rfl c⟩
  · unfold wp_X5_refusalToLet wp_X5_refusalToSell
    exact e_noHole hd.2 ⟨fun _ => ⟨fun c => absurd c (by decide), fun _ => ⟨fun c => absurd c (by decide), fun _ => hQ⟩⟩, fun c => absurd rfl c⟩
  · unfold wp_X5_refusalToSell
    exact e_noHole hd.2 ⟨fun _ => ⟨fun c => absurd c (by decide), fun _ => hQ⟩, fun c => absurd rfl c⟩
theorem e_tryThing {f : Int32} {F : Nat} {m : CS} {Q : Int32 → CS → Prop} (hf : f.toInt = F) (hF : F < 10000) (hm : Mt m) (h1 : F = 0 → ∀ m', Mt m' → Q 1 m') (h0 : ¬ F = 0 → ∀ m', Q 0 m') : wp_X7_tryThing (f / 1000) (f / 100 - f / 100 / 10 * 10) (f - f / 100 * 100) m Q := by
  have d1 := ti_div hf (show (1000 : Int32).toInt = ((1000 : Nat) : Int) from rfl)
  have d2 := ti_div hf (show (100 : Int32).toInt = ((100 : Nat) : Int) from rfl)
  have d3 := ti_div d2 (show (10 : Int32).toInt = ((10 : Nat) : Int) from rfl)
  have d4 := ti_mul d3 (show (10 : Int32).toInt = ((10 : Nat) : Int) from rfl) (by omega)
  have d5 := ti_sub d2 d4 (by omega)
  have d6 := ti_mul d2 (show (100 : Int32).toInt = ((100 : Nat) : Int) from rfl) (by omega)
  have d7 := ti_sub hf d6 (by omega)
  unfold wp_X7_tryThing
  refine ⟨fun c => ?_, fun c => ?_⟩
  · rw [ti_z d1] at c
    refine e_passOn (L := 1) rfl (by omega) hm.2.1 (fun m' _ g _ => ?_)
    rw [ti_z d5, ti_z d7]
    exact ⟨fun c2 => h0 (by omega) _, fun c2 => ⟨fun c3 => h0 (by omega) _, fun c3 => h1 (by omega) _ (g hm)⟩⟩
  rw [ti_z d1] at c
  have hQ := h0 (by omega)
  refine ⟨fun _ => ?_, fun _ => ⟨fun _ => ⟨fun _ => ?_, fun _ => ?_⟩, fun _ => ⟨fun _ => ⟨fun _ => ?_, fun _ => ?_⟩, fun _ => hQ _⟩⟩⟩
  · unfold wp_X7_canEat
    exact e_noOwnerM hm.1 ⟨fun _ => ⟨fun _ => ⟨rfl, hQ _⟩, fun c => absurd rfl c⟩, fun c => absurd rfl c⟩
  · unfold B_X7_tryThing_97 B_X7_tryThing_98
    exact ⟨fun _ => ⟨rfl, hQ _⟩, fun c => absurd rfl c⟩
  · unfold wp_X7_canLet
    intro _ _
    refine e_noHoleM hm.2.1 ⟨fun _ => ⟨fun _ => ?_, fun c => absurd rfl c⟩, fun c => absurd rfl c⟩
    unfold B_X7_tryThing_97 B_X7_tryThing_98
    exact ⟨fun _ => ⟨rfl, hQ _⟩, fun c => absurd rfl c⟩
  · unfold B_X7_tryThing_138 B_X7_tryThing_139
    exact ⟨fun _ => ⟨rfl, hQ _⟩, fun c => absurd rfl c⟩
  · unfold wp_X7_canSell
    intro _ _
    refine e_noHoleM hm.2.1 ⟨fun _ => ⟨fun _ => ?_, fun c => absurd rfl c⟩, fun c => absurd rfl c⟩
    unfold B_X7_tryThing_138 B_X7_tryThing_139
    exact ⟨fun _ => ⟨rfl, hQ _⟩, fun c => absurd rfl c⟩
theorem p10 {i : Nat} (h : i < 3) : 10000 ^ i = 1 ∨ 10000 ^ i = 10000 ∨ 10000 ^ i = 100000000 := by
  rcases (show i = 0 ∨ i = 1 ∨ i = 2 by omega) with e | e | e <;> subst e <;> decide
theorem p10s (i : Nat) : 10000 ^ (i + 1) = 10000 ^ i * 10000 := Nat.pow_succ ..
theorem e_power {n : Int32} {N : Nat} {Q : Int64 → Prop} (hn : n.toInt = N) (hN : N ≤ 3) (h : ∀ v : Int64, v.toInt = ((10000 ^ N : Nat) : Int) → Q v) : wp_X7_power 10000 n Q := by
  unfold wp_X7_power B_X7_power_5
  refine LOOP_c N (fun i z => z.1 = 10000 ∧ z.2.1 = n ∧ z.2.2.1.toInt = ((10000 ^ i : Nat) : Int) ∧ z.2.2.2.toInt = (i : Int)) _ ⟨rfl, rfl, rfl, rfl⟩ ?_
  rintro i ⟨x0, x2, x3, x5⟩ G hi ⟨k1, k2, k3, k4⟩ hG
  change LB_X7_power_5 G x0 x2 x3 x5 Q
  dsimp only at k1 k2 k3 k4
  subst k1; subst k2
  unfold LB_X7_power_5
  rw [Int32.le_iff_toInt_le]
  refine ⟨fun c => ?_, fun c => ?_⟩
  · have e : i = N := by omega
    subst e
    exact h _ k3
  · intro _ e _ e2
    subst e; subst e2
    have hp := p10 (i := i) (by omega)
    have hm := tl_mul k3 (show (10000 : Int64).toInt = ((10000 : Nat) : Int) from rfl) (by omega)
    exact hG _ (by omega) ⟨rfl, rfl, hm, ti_add k4 (by omega)⟩
def judgeF (p : Int32) (v : Int64) : Int32 := if 1 ≤ p.toInt ∧ p.toInt ≤ 3 then (if 0 ≤ v.toInt ∧ v.toInt < ((10000 ^ p.toInt.toNat : Nat) : Int) then (if v.toInt = 0 then -9 else if ((10000 ^ (p.toInt.toNat - 1) : Nat) : Int) ≤ v.toInt then 0 else if ((10000 ^ (p.toInt.toNat - 2) : Nat) : Int) ≤ v.toInt then 1 else 2) else -2) else -2
theorem judgeF_k {p : Int32} {v : Int64} {N V : Nat} (hp : p.toInt = N) (hv : v.toInt = V) (h1 : 1 ≤ N) (h3 : N ≤ 3) {i : Nat} (hi : i < N) (ha : V < 10000 ^ (N - i)) (hb : 10000 ^ (N - 1 - i) ≤ V) {x : Int32} (hx : x.toInt = i) : judgeF p v = x := by
  have e : p.toInt.toNat = N := by omega
  unfold judgeF
  rw [e, hp, hv, ti_of hx]
  rcases (show N = 1 ∨ N = 2 ∨ N = 3 by omega) with e | e | e <;> subst e
  · obtain rfl : i = 0 := by omega
    simp only [Nat.reducePow, Nat.reduceSub] at ha hb ⊢
    rw [if_pos (by omega), if_pos (by omega), if_neg (by omega), if_pos (by omega)]
    rfl
  · rcases (show i = 0 ∨ i = 1 by omega) with e | e <;> subst e <;> simp only [Nat.reducePow, Nat.reduceSub] at ha hb ⊢
    · rw [if_pos (by omega), if_pos (by omega), if_neg (by omega), if_pos (by omega)]
      rfl
    · rw [if_pos (by omega), if_pos (by omega), if_neg (by omega), if_neg (by omega), if_pos (by omega)]
      rfl
  · rcases (show i = 0 ∨ i = 1 ∨ i = 2 by omega) with e | e | e <;> subst e <;> simp only [Nat.reducePow, Nat.reduceSub] at ha hb ⊢
    · rw [if_pos (by omega), if_pos (by omega), if_neg (by omega), if_pos (by omega)]
      rfl
    · rw [if_pos (by omega), if_pos (by omega), if_neg (by omega), if_neg (by omega), if_pos (by omega)]
      rfl
    · rw [if_pos (by omega), if_pos (by omega), if_neg (by omega), if_neg (by omega), if_neg (by omega)]
      rfl
theorem judgeF_z {p : Int32} {v : Int64} {N : Nat} (hp : p.toInt = N) (hv : v.toInt = 0) (h1 : 1 ≤ N) (h3 : N ≤ 3) : judgeF p v = -9 := by
  have e : p.toInt.toNat = N := by omega
  have hq : 0 < 10000 ^ N := Nat.pow_pos (by decide)
  unfold judgeF
  rw [e, hp, hv, if_pos (by omega), if_pos (by omega), if_pos rfl]
theorem judgeF_o {p : Int32} {v : Int64} (h : ¬ ((1 ≤ p.toInt ∧ p.toInt ≤ 3) ∧ 0 ≤ v.toInt ∧ v.toInt < ((10000 ^ p.toInt.toNat : Nat) : Int))) : judgeF p v = -2 := by
  unfold judgeF
  by_cases e : 1 ≤ p.toInt ∧ p.toInt ≤ 3
  · rw [if_pos e, if_neg (fun e2 => h ⟨e, e2⟩)]
  · rw [if_neg e]
theorem dq {V N i : Nat} (h1 : 1 ≤ N) (h3 : N ≤ 3) (hi : i < N) (ha : V < 10000 ^ (N - i)) : V * 10000 ^ i / 10000 ^ (N - 1) = V / 10000 ^ (N - 1 - i) ∧ V / 10000 ^ (N - 1 - i) < 10000 ∧ V * 10000 ^ i < 10000 ^ N := by
  rcases (show N = 1 ∨ N = 2 ∨ N = 3 by omega) with e | e | e <;> subst e
  · obtain rfl : i = 0 := by omega
    simp only [Nat.reducePow, Nat.reduceSub] at ha ⊢
    omega
  · rcases (show i = 0 ∨ i = 1 by omega) with e | e <;> subst e <;> simp only [Nat.reducePow, Nat.reduceSub] at ha ⊢ <;> omega
  · rcases (show i = 0 ∨ i = 1 ∨ i = 2 by omega) with e | e | e <;> subst e <;> simp only [Nat.reducePow, Nat.reduceSub] at ha ⊢ <;> omega
theorem p10p (i : Nat) : 0 < 10000 ^ i := Nat.pow_pos (by decide)
theorem p10N {N : Nat} (h1 : 1 ≤ N) (h3 : N ≤ 3) : 10000 ^ N ≤ 1000000000000 ∧ 10000 ^ N = 10000 ^ (N - 1) * 10000 := by
  rcases (show N = 1 ∨ N = 2 ∨ N = 3 by omega) with e | e | e <;> subst e <;> decide
theorem x_judge {p : Int32} {v : Int64} {Z Y : Nat → Nat → Nat} {Q : Int32 → (Nat → CS) → AS → Prop} (h : ∀ S a, Q (judgeF p v) S a) : wp_X6_judge p v Z Y S0 (a0 Y) Q := by
  unfold wp_X6_judge
  have e1 : (1 : Int32).toInt = 1 := rfl
  have e3 : (3 : Int32).toInt = 3 := rfl
  refine ⟨fun c => ?_, fun c => ⟨fun c2 => ?_, fun c2 => ?_⟩⟩
  · rw [Int32.lt_iff_toInt_lt] at c
    rw [judgeF_o (by omega)] at h
    exact h _ _
  · rw [Int32.lt_iff_toInt_lt] at c
    rw [Int32.le_iff_toInt_le] at c2
    obtain ⟨N, hN⟩ := nat_of (p := p) (by omega)
    have eN : p.toInt.toNat = N := by omega
    unfold B_X6_judge_19
    refine LOOP_c (N - 1) (fun i z => z.1 = p ∧ z.2.1 = v ∧ z.2.2.1.toInt = ((10000 ^ i : Nat) : Int) ∧ z.2.2.2.1.toInt = ((1 + i : Nat) : Int) ∧ z.2.2.2.2.1 = S0 ∧ z.2.2.2.2.2 = a0 Y) _ ⟨rfl, rfl, rfl, rfl, rfl, rfl⟩ ?_
    rintro i ⟨x1, x2, x4, x6, S, a⟩ G hi ⟨k1, k2, k3, k4, k5, k6⟩ hG
    change LB_X6_judge_19 G Z Y x1 x2 x4 x6 S a Q
    dsimp only at k1 k2 k3 k4 k5 k6
    subst k1; subst k2; subst k5; subst k6
    unfold LB_X6_judge_19
    rw [Int32.le_iff_toInt_le]
    refine ⟨fun c3 => ?_, fun c3 => ?_⟩
    · have ei : i = N - 1 := by omega
      subst ei
      have hz : ¬ x4 = 0 := by
        rw [tl_z k3]
        have := p10p (N - 1)
        omega
      have hpN := p10N (N := N) (by omega) (by omega)
      rw [lg_cmp_lt, Int64.lt_iff_toInt_lt]
      refine ⟨fun c4 => ?_, fun c4 => ⟨hz, ?_⟩⟩
      · have : (0 : Int64).toInt = 0 := rfl
        rw [judgeF_o (by omega)] at h
        exact h _ _
      have z0 : (0 : Int64).toInt = 0 := rfl
      have z4 : (10000 : Int64).toInt = 10000 := rfl
      obtain ⟨V, hV⟩ : ∃ V : Nat, x2.toInt = V := ⟨x2.toInt.toNat, by omega⟩
      have hd := tl_div hV k3
      rw [lg_cmp_lt, Int64.lt_iff_toInt_lt, hd, z4]
      have hlt : V / 10000 ^ (N - 1) < 10000 ↔ V < 10000 ^ N := by
        rw [Nat.div_lt_iff_lt_mul (p10p _), hpN.2, Nat.mul_comm]
      refine ⟨fun c5 => ?_, fun c5 => ?_⟩
      · have c6 : V < 10000 ^ N := hlt.mp (by omega)
        refine e_copy (fun w hv hv2 => ?_)
        intro S e
        have hW : Wz (S 5) := by
          subst e
          exact ⟨fun i hi => (hv i hi).trans (S0w i hi), hv2.trans S0e⟩
        have hD : Dz (S 1) := by
          subst e
          exact ⟨rfl, rfl⟩
        clear e
        unfold B_X6_judge_76
        refine LOOP_c N (fun i z => z.1 = x1 ∧ z.2.1 = x4 ∧ z.2.2.1.toInt = ((V * 10000 ^ i : Nat) : Int) ∧ z.2.2.2.1.toInt = (i : Int) ∧ V < 10000 ^ (N - i) ∧ Wz (z.2.2.2.2.1 5) ∧ Dz (z.2.2.2.2.1 1)) _ ⟨rfl, rfl, by simpa using hV, rfl, c6, hW, hD⟩ ?_
        rintro i ⟨y1, y4, y6, y8, S2, a2⟩ G2 hi2 ⟨l1, l2, l3, l4, l5, l6, l7⟩ hG2
        change LB_X6_judge_76 G2 Z Y y1 y4 y6 y8 S2 a2 Q
        dsimp only at l1 l2 l3 l4 l5 l6 l7
        subst l1; subst l2
        unfold LB_X6_judge_76
        rw [Int32.le_iff_toInt_le]
        refine ⟨fun c7 => ?_, fun c7 => ⟨hz, ?_⟩⟩
        · have ei : i = N := by omega
          subst ei
          rw [Nat.sub_self, Nat.pow_zero] at l5
          rw [judgeF_z hN (by omega) (by omega) (by omega)] at h
          exact h _ _
        obtain ⟨q1, q2, q3⟩ := dq (V := V) (N := N) (i := i) (by omega) (by omega) (by omega) l5
        have d1 := tl_div l3 k3
        rw [q1] at d1
        intro x9 e9
        have h9 : x9.toInt = ((V / 10000 ^ (N - 1 - i) : Nat) : Int) := by
          rw [e9]
          exact tl_32 d1 (by omega)
        refine ⟨hz, ?_⟩
        intro y6' e6
        refine e_doTold l6 l7 (fun c8 => ?_) (fun c8 => ?_)
        · rw [ti_z h9] at c8
          intro _ e
          refine ⟨fun _ => ?_, fun c => absurd c (by decide)⟩
          intro _ e2
          subst e; subst e2
          rw [c8] at d1
          have d2 := tl_mul d1 k3 (by omega)
          have d3 := tl_sub l3 d2 (by omega)
          have d4 := tl_mul d3 (show (10000 : Int64).toInt = ((10000 : Nat) : Int) from rfl) (by omega)
          refine hG2 _ (by omega) ⟨rfl, rfl, ?_, ti_add l4 (by omega), ?_, l6, l7⟩
          · show y6'.toInt = _
            rw [e6, d4, p10s, Nat.zero_mul, Nat.sub_zero, Nat.mul_assoc]
          · rw [Nat.div_eq_zero_iff] at c8
            have := p10p (N - 1 - i)
            rw [show N - (i + 1) = N - 1 - i by omega]
            omega
        · rw [ti_z h9] at c8
          intro _ e
          refine ⟨fun c => absurd rfl c, fun _ => ?_⟩
          have hb : 10000 ^ (N - 1 - i) ≤ V := by
            refine Classical.byContradiction (fun c9 => c8 ?_)
            exact Nat.div_eq_of_lt (by omega)
          rw [judgeF_k hN hV (by omega) (by omega) (by omega) l5 hb l4] at h
          exact h _ _
      · have c6 : ¬ V < 10000 ^ N := fun e => c5 (by have := hlt.mpr e; omega)
        rw [judgeF_o (by rw [eN]; omega)] at h
        exact h _ _
    · intro _ e _ e2
      subst e; subst e2
      have hp := p10 (i := i) (by omega)
      have hm := tl_mul k3 (show (10000 : Int64).toInt = ((10000 : Nat) : Int) from rfl) (by omega)
      exact hG _ (by omega) ⟨rfl, rfl, hm, ti_add (i := 1 + i) k4 (by omega), rfl, rfl⟩
  · rw [Int32.le_iff_toInt_le] at c2
    rw [judgeF_o (by omega)] at h
    exact h _ _
theorem r_judge {p : Int32} {v : Int64} {Q : Int32 → CS → Prop} (h : ∀ m, Q (judgeF p v) m) : wp_X7_judge p v m0 Q := by
  unfold wp_X7_judge
  refine e_in3 1 3 rfl rfl (fun a b => ⟨fun c => absurd c (by decide), fun _ => ?_⟩) (fun a => ⟨fun _ => ?_, fun c => absurd rfl c⟩)
  · obtain ⟨N, hN⟩ := nat_of (p := p) (by omega)
    have eN : p.toInt.toNat = N := by omega
    have hpN := p10N (N := N) (by omega) (by omega)
    refine e_power hN (by omega) (fun r hr => ?_)
    have h1 : (r - 1).toInt = ((10000 ^ N - 1 : Nat) : Int) := tl_sub hr (show (1 : Int64).toInt = ((1 : Nat) : Int) from rfl) (p10p N)
    have z0 : (0 : Int64).toInt = 0 := rfl
    have hp := p10p N
    refine e_in (fun a2 b2 => ⟨fun _ => ?_, fun c => absurd c (by decide)⟩) (fun a2 => ⟨fun c => absurd rfl c, fun _ => ?_⟩)
    · obtain ⟨V, hV⟩ : ∃ V : Nat, v.toInt = V := ⟨v.toInt.toNat, by omega⟩
      have c6 : V < 10000 ^ N := by omega
      refine e_layTrial m0n (fun m e1 e2 e3 => ?_)
      have hM : Mt m := ⟨by rw [e1]; rfl, by rw [e1]; rfl, e3⟩
      unfold B_X7_judge_39
      refine LOOP_c N (fun i z => z.1 = p ∧ z.2.1 = v ∧ z.2.2.1.toInt = (i : Int) ∧ V < 10000 ^ (N - i) ∧ Mt z.2.2.2) _ ⟨rfl, rfl, rfl, c6, hM⟩ ?_
      rintro i ⟨x1, x2, x4, s⟩ G hi ⟨k1, k2, k3, k4, k5⟩ hG
      change LB_X7_judge_39 G x1 x2 x4 s Q
      dsimp only at k1 k2 k3 k4 k5
      subst k1; subst k2
      unfold LB_X7_judge_39
      rw [Int32.le_iff_toInt_le]
      refine ⟨fun c7 => ?_, fun c7 => ?_⟩
      · have ei : i = N := by omega
        subst ei
        rw [Nat.sub_self, Nat.pow_zero] at k4
        rw [judgeF_z hN (by omega) (by omega) (by omega)] at h
        exact h _
      obtain ⟨q1, q2, q3⟩ := dq (V := V) (N := N) (i := i) (by omega) (by omega) (by omega) k4
      have s1 := ti_sub hN (show (1 : Int32).toInt = ((1 : Nat) : Int) from rfl) (by omega)
      have s2 := ti_sub s1 k3 (by omega)
      refine e_power s2 (by omega) (fun r2 hr2 => ⟨?_, ?_⟩)
      · rw [tl_z hr2]
        have := p10p (N - 1 - i)
        omega
      intro x5 e5
      have d1 := tl_div hV hr2
      have d2 := tl_div d1 (show (10000 : Int64).toInt = ((10000 : Nat) : Int) from rfl)
      have d3 := tl_mul d2 (show (10000 : Int64).toInt = ((10000 : Nat) : Int) from rfl) (by omega)
      have d4 := tl_sub d1 d3 (by omega)
      have d5 := tl_32 d4 (by omega)
      rw [← e5] at d5
      have d6 : x5.toInt = ((V / 10000 ^ (N - 1 - i) : Nat) : Int) := by
        rw [d5]
        generalize V / 10000 ^ (N - 1 - i) = D at q2
        omega
      refine e_tryThing d6 q2 k5 (fun c8 m' hm' => ⟨fun _ => ?_, fun c => absurd c (by decide)⟩) (fun c8 m' => ⟨fun c => absurd rfl c, fun _ => ?_⟩)
      · intro _ e
        subst e
        refine hG _ (by omega) ⟨rfl, rfl, ti_add k3 (by omega), ?_, hm'⟩
        rw [Nat.div_eq_zero_iff] at c8
        have := p10p (N - 1 - i)
        rw [show N - (i + 1) = N - 1 - i by omega]
        omega
      · have hb : 10000 ^ (N - 1 - i) ≤ V := by
          refine Classical.byContradiction (fun c9 => c8 ?_)
          exact Nat.div_eq_of_lt (by omega)
        rw [judgeF_k hN hV (by omega) (by omega) (by omega) k4 hb k3] at h
        exact h _
    · rw [judgeF_o (by rw [eN]; omega)] at h
      exact h _
  · rw [judgeF_o (by omega)] at h
    exact h _
