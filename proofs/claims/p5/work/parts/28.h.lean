theorem S0w : ∀ i, i < 5 → (S0 4).2.1 0 i = 0 := fun _ _ => rfl
theorem S0e : (S0 4).1 4 = 0 := rfl
theorem m0n : ∀ i, i < 20 → m0.2.1 5 i = 7 := by
  intro i hi
  show (if i < 20 then (7 : Int32) else 0) = 7
  rw [if_pos hi]
theorem m0n2 : ∀ i, i < 20 → m0.2.1 5 (35 * 0 + i) = 7 := by
  intro i hi
  rw [show 35 * 0 + i = i by omega]
  exact m0n i hi
theorem z_in {n : Nat} (hn : 0 < n) : vp_in (0 : Int32) n := ti_in (i := 0) rfl hn
def writeF (p : Int32) : Int32 := if 0 ≤ p.toInt ∧ p.toInt ≤ 255 then 1 else -2
theorem x_write {p : Int32} {Z Y : Nat → Nat → Nat} {Q : Int32 → (Nat → CS) → AS → Prop} (h : ∀ S a, Q (writeF p) S a) : wp_X6_write p Z Y S0 (a0 Y) Q := by
  unfold wp_X6_write
  unfold writeF at h
  have e0 : (0 : Int32).toInt = 0 := rfl
  have e255 : (255 : Int32).toInt = 255 := rfl
  refine ⟨fun c => ?_, fun c => ⟨fun c2 => ?_, fun c2 => ?_⟩⟩
  · rw [Int32.lt_iff_toInt_lt] at c
    rw [if_neg (by omega)] at h
    exact h _ _
  · rw [Int32.lt_iff_toInt_lt] at c
    rw [Int32.le_iff_toInt_le] at c2
    rw [if_pos (by omega)] at h
    refine ⟨fun c3 => absurd c3 (show ¬ (0 : Int32) < 0 by decide), fun _ => ⟨fun _ => ⟨z_in (by decide), ?_⟩, fun c3 => absurd (show (0 : Int32) < 48 by decide) c3⟩⟩
    intro _ e _ e2
    subst e; subst e2
    exact h _ _
  · rw [Int32.le_iff_toInt_le] at c2
    rw [if_neg (by omega)] at h
    exact h _ _
theorem r_write {p : Int32} {Q : Int32 → CS → Prop} (h : ∀ m, Q (writeF p) m) : wp_X7_write p m0 Q := by
  unfold wp_X7_write
  unfold writeF at h
  refine e_in3 0 255 rfl rfl (fun a b => ⟨fun _ => ⟨fun _ => ⟨z_in (by decide), ?_⟩, fun c => absurd c (show ¬ (0 : Int32) = 48 by decide)⟩, fun c => absurd c (by decide)⟩) (fun a => ⟨fun c => absurd rfl c, fun _ => ?_⟩)
  · intro _ e _ e2
    subst e; subst e2
    rw [if_pos ⟨a, b⟩] at h
    exact h _
  · rw [if_neg a] at h
    exact h _
theorem x_readAll {f : FA} {d : CS} {Q : Int32 → CS → FA → Prop} (h : ∀ s, Q 0 s f) : wp_X1_readAll 0 48 d f Q := by
  unfold wp_X1_readAll wp_X1_forget
  intro _ e1 _ e2
  refine sf_J7_fill_53178 (by decide) (fun g => ?_)
  intro _ e3
  refine sf_J7_fill_53178 (by decide) (fun g2 => ?_)
  intro _ e4 _ e5 _ e6 _ e7 _ e8 s0 e9
  unfold B_X1_readAll_6
  refine LOOP_c 0 (fun _ z => z = ((0 : Int32), (0 : Int32), s0, f)) _ rfl ?_
  intro i z G hi e hG
  change z = _ at e
  subst e
  change LB_X1_readAll_6 G 48 0 0 s0 f Q
  unfold LB_X1_readAll_6
  refine ⟨fun _ => ?_, fun c => absurd (show (0 : Int32) ≤ 0 by decide) c⟩
  unfold B_X1_readAll_35
  refine ⟨fun _ => h _, fun c => absurd c ?_⟩
  subst e9; subst e8
  exact (show ¬ (0 : Int32) = 68 by decide)
theorem x_fault {Z Y : Nat → Nat → Nat} {Q : Int32 → (Nat → CS) → AS → Prop} (h : ∀ S a, Q 0 S a) : wp_X6_fault Z Y S0 (a0 Y) Q := by
  unfold wp_X6_fault
  refine x_readAll (fun s => ?_)
  intro _ _
  exact h _ _
theorem x_dairy {Z Y : Nat → Nat → Nat} {Q : Int32 → (Nat → Nat → Nat) → (Nat → CS) → AS → Prop} (h : ∀ S a, Q (-3) Z S a) : wp_X6_dairy Z Y S0 (a0 Y) Q := by
  unfold wp_X6_dairy
  refine x_readAll (fun s => ?_)
  intro _ _
  exact ⟨fun c => absurd c (by decide), fun _ => h _ _⟩
theorem r_readText {Q : Int32 → CS → Prop} (h : ∀ m, Q 0 m) : wp_X7_readText m0 Q := by
  unfold wp_X7_readText
  intro _ e1 _ e2 _ e3 _ e4 _ e5 s e6
  have hs : s.1 14 = 0 := by
    subst e6; subst e5; subst e4; subst e3; subst e2; subst e1
    rfl
  clear e1 e2 e3 e4 e5 e6
  unfold B_X7_readText_33
  refine LOOP_c 4 (fun i z => z.1.toInt = (i : Int) ∧ z.2.1 14 = 0) _ ⟨rfl, hs⟩ ?_
  rintro i ⟨x1, s1⟩ G hi ⟨k1, k2⟩ hG
  change LB_X7_readText_33 G x1 s1 Q
  dsimp only at k1 k2
  unfold LB_X7_readText_33
  refine ⟨fun _ => ⟨fun _ => h _, fun c => absurd k2 c⟩, fun c => ?_⟩
  have c1 : i < 4 := by rw [ti_ge (m := 4) k1 rfl] at c; omega
  refine ⟨ti_in k1 (by omega), ?_⟩
  intro _ e _ e2
  subst e; subst e2
  exact hG _ c1 ⟨ti_add k1 (by omega), k2⟩
theorem r_fault {Q : Int32 → CS → Prop} (h : ∀ m, Q 0 m) : wp_X7_fault m0 Q := by
  unfold wp_X7_fault
  exact r_readText h
theorem r_dairy {Q : Int32 → CS → Prop} (h : ∀ m, Q (-3) m) : wp_X7_dairy m0 Q := by
  unfold wp_X7_dairy
  exact r_readText (fun m => ⟨fun c => absurd c (by decide), fun _ => h _⟩)
def cellF (p q : Int32) : Int32 := if isC p then (if q = 0 then 0 else if q = 1 then -9 else if q = 2 then -9 else -2) else -1
theorem x_cell {p q : Int32} {Z Y : Nat → Nat → Nat} {Q : Int32 → Prop} (h : Q (cellF p q)) : wp_X6_cell p q Z Y S0 (a0 Y) Q := by
  unfold wp_X6_cell
  unfold cellF at h
  refine e_hasCell (fun a => ⟨fun _ => ?_, fun c => absurd c (by decide)⟩) (fun a => ⟨fun c => absurd rfl c, fun _ => ?_⟩)
  · rw [if_pos a] at h
    refine ⟨fun c => ?_, fun c => ⟨fun c2 => ?_, fun c2 => ⟨fun c3 => ?_, fun c3 => ?_⟩⟩⟩
    · rw [if_pos c] at h
      unfold wp_X5_stuffAt
      refine sf_X2_bitOf (fun r => ⟨fun _ => ?_, fun c2 => absurd ?_ c2⟩)
      · refine e_holeCells S0w ⟨fun _ => h, fun c2 => absurd Int32.zero_and c2⟩
      · rw [S0e]
        exact Int32.zero_and
    · rw [if_neg c, if_pos c2] at h
      exact e_holeAt S0w h
    · rw [if_neg c, if_neg c2, if_pos c3] at h
      unfold wp_X5_ownerAt
      refine e_holeAt S0w ⟨fun _ => ?_, fun c => absurd rfl c⟩
      refine e_pasteCells S0w S0e ?_
      have g : ∀ t, B_X5_ownerAt_38 (S0 4) (S0 1) p t Q := by
        intro t
        unfold B_X5_ownerAt_38
        refine ⟨fun _ => h, fun _ => ?_⟩
        unfold wp_X3_get
        refine ⟨fun _ => h, fun b => ⟨fun _ => h, fun b2 => ?_⟩⟩
        have hv := vin_n2 (by decide) b b2
        refine ⟨hv, ?_⟩
        have hc := clamp_lt hv
        have e : (S0 1).2.1 3 (p / 5).toNatClampNeg = -9 := rfl
        rw [e]
        exact h
      exact sf_X2_bitOf (fun r => ⟨fun _ => g _, fun _ => g _⟩)
    · rw [if_neg c, if_neg c2, if_neg c3] at h
      exact h
  · rw [if_neg a] at h
    exact h
theorem r_cell {p q : Int32} {Q : Int32 → Prop} (h : Q (cellF p q)) : wp_X7_cell p q m0 Q := by
  unfold wp_X7_cell
  unfold cellF at h
  refine e_isCell (fun a => ⟨fun _ => ?_, fun c => absurd c (by decide)⟩) (fun a => ⟨fun c => absurd rfl c, fun _ => ?_⟩)
  · rw [if_pos a] at h
    obtain ⟨k, hk, hk2, hk3⟩ := isC_n a
    refine ⟨ti_in hk2 (by omega), ?_⟩
    intro x e
    rw [ti_cl hk2, m0n k hk] at e
    subst e
    refine ⟨fun c => ?_, fun c => ⟨fun c2 => ?_, fun c2 => ⟨fun c3 => ?_, fun c3 => ?_⟩⟩⟩
    · rw [if_pos c] at h
      exact ⟨fun c => absurd rfl c, fun _ => h⟩
    · rw [if_neg c, if_pos c2] at h
      exact ⟨fun _ => h, fun c => absurd (show (7 : Int32) ≤ 7 by decide) c⟩
    · rw [if_neg c, if_neg c2, if_pos c3] at h
      unfold wp_X7_ownerOf
      have h35 := ti_35 (l := 0) (L := 0) rfl (by omega) hk2 (by omega)
      refine ⟨ti_in h35 (by omega), ?_⟩
      intro x e
      rw [ti_cl h35, m0n2 k hk] at e
      subst e
      refine ⟨fun c => absurd rfl c, fun _ => ?_⟩
      have h5 : ∀ k, k < 20 → (Int32.ofInt (k : Nat) / 5).toInt = ((k / 5 : Nat) : Int) := by decide +kernel
      have h6 := h5 k hk
      rw [← hk3] at h6
      refine ⟨ti_in h6 (by omega), ?_⟩
      rw [ti_cl h6]
      have e : m0.2.1 3 (k / 5) = -9 := by
        show (if k / 5 < 4 then (-9 : Int32) else 0) = -9
        rw [if_pos (by omega)]
      rw [e]
      exact h
    · rw [if_neg c, if_neg c2, if_neg c3] at h
      exact h
  · rw [if_neg a] at h
    exact h
theorem x_day {Z Y : Nat → Nat → Nat} {Q : Int32 → (Nat → CS) → AS → Prop} (h : ∀ S a, Q 0 S a) : wp_X6_day Z Y S0 (a0 Y) Q := by
  unfold wp_X6_day
  refine sf_X0_remember (Aok_0 Y) (fun a' _ => ?_)
  intro S3 e
  subst e
  refine e_passDay rfl rfl (fun _ _ => rfl) ?_
  intro _ _
  exact h _ _
theorem r_day {Q : Int32 → CS → Prop} (h : ∀ m, Q 0 m) : wp_X7_day m0 Q := by
  unfold wp_X7_day
  exact e_keepAct rfl (fun m' e => e_passOn (L := 0) rfl (by omega) e (fun m2 _ _ _ => h m2))
def wayF (p q v : Int32) : Int32 := if isC p then (if isC q then (if p = q then 0 else v) else -1) else -1
theorem x_way {p q : Int32} {Z Y : Nat → Nat → Nat} {Q : Int32 → Prop} (h : Q (wayF p q (-9))) : wp_X6_way p q Z Y S0 (a0 Y) Q := by
  unfold wp_X6_way
  unfold wayF at h
  refine e_hasCell (fun a => ⟨fun c => absurd c (by decide), fun _ => ?_⟩) (fun a => ⟨fun _ => ?_, fun c => absurd rfl c⟩)
  · rw [if_pos a] at h
    refine e_hasCell (fun a2 => ⟨fun _ => ?_, fun c => absurd c (by decide)⟩) (fun a2 => ⟨fun c => absurd rfl c, fun _ => ?_⟩)
    · rw [if_pos a2] at h
      exact e_openCells S0w S0e (e_steps0 a a2 h)
    · rw [if_neg a2] at h
      exact h
  · rw [if_neg a] at h
    exact h
theorem r_way {p q : Int32} {Q : Int32 → Prop} (h : Q (wayF p q (-9))) : wp_X7_way p q m0 Q := by
  unfold wp_X7_way
  unfold wayF at h
  refine e_isCell (fun a => ⟨fun c => absurd c (by decide), fun _ => ?_⟩) (fun a => ⟨fun _ => ?_, fun c => absurd rfl c⟩)
  · rw [if_pos a] at h
    refine e_isCell (fun a2 => ⟨fun _ => ⟨fun c => ?_, fun c => ?_⟩, fun c => absurd c (by decide)⟩) (fun a2 => ⟨fun c => absurd rfl c, fun _ => ?_⟩)
    · rw [if_pos a2, if_neg c] at h
      exact e_of7 (L := 0) rfl (by omega) m0n2 (e_stepsBy0 a2 h)
    · rw [if_pos a2, if_pos c] at h
      exact h
    · rw [if_neg a2] at h
      exact h
  · rw [if_neg a] at h
    exact h
theorem x_wedding {p q : Int32} {Z Y : Nat → Nat → Nat} {Q : Int32 → (Nat → CS) → AS → Prop} (h : ∀ S a, Q (-1) S a) : wp_X6_wedding p q Z Y S0 (a0 Y) Q := by
  unfold wp_X6_wedding
  exact e_noHole rfl ⟨fun _ => h _ _, fun c => absurd rfl c⟩
theorem r_wedding {p q : Int32} {Q : Int32 → CS → Prop} (h : ∀ m, Q (-1) m) : wp_X7_wedding p q m0 Q := by
  unfold wp_X7_wedding
  exact e_noHoleM rfl ⟨fun _ => h _, fun c => absurd rfl c⟩
theorem x_rests {p q r : Int32} {Z Y : Nat → Nat → Nat} {Q : Int32 → Prop} (h : Q (-1)) : wp_X6_rests p q r Z Y S0 (a0 Y) Q := by
  unfold wp_X6_rests
  exact e_noOwner rfl ⟨fun _ => h, fun c => absurd rfl c⟩
theorem r_rests {p q r : Int32} {Q : Int32 → Prop} (h : Q (-1)) : wp_X7_rests p q r m0 Q := by
  unfold wp_X7_rests
  exact e_noOwnerM rfl ⟨fun _ => h, fun c => absurd rfl c⟩
