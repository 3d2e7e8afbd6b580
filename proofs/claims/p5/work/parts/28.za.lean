abbrev PS : Type := Int32 × Int32 × Int32 × Int32 × Int32 × Int32 × Int32
abbrev inO (v o : Int32) : Prop := 0 ≤ v.toInt ∧ v.toInt < o.toInt
def bto (v : Int32) : Int32 := if isC v then (1 : Int32) <<< (v &&& 31) else 0
abbrev opn (o r h c : Int32) : Prop := (c = 79 ∧ o.toInt < 4) ∨ (c = 82 ∧ 0 < o.toInt ∧ ¬ r = 15) ∨ (c = 72 ∧ 0 < o.toInt ∧ h.toInt < 5)
def stp (s : PS) (c : Int32) : Option PS :=
  if s.1 = 0 then (if c = 68 then some (68, s.2) else none)
  else if s.1 = 68 then (if opn s.2.2.1 s.2.2.2.1 s.2.2.2.2.1 c then some (c, 0, s.2.2) else none)
  else if s.1 = 79 then (if inO (c - 48) 4 then some (68, s.2.1, s.2.2.1 + 1, s.2.2.2) else none)
  else if s.1 = 82 then
    (if s.2.1 = 0 then (if inO (c - 48) 4 ∧ s.2.2.2.1 &&& ((1 : Int32) <<< ((c - 48) &&& 31)) = 0 then some (82, 1, s.2.2.1, s.2.2.2.1, s.2.2.2.2.1, s.2.2.2.2.2.1, c - 48) else none)
     else (if inO (c - 48) s.2.2.1 then some (68, s.2.1, s.2.2.1, s.2.2.2.1 ||| ((1 : Int32) <<< (s.2.2.2.2.2.2 &&& 31)), s.2.2.2.2) else none))
  else
    (if s.2.1 = 0 then (if isC (c - 97) ∧ s.2.2.2.2.2.1 &&& bto (c - 97) = 0 then some (s.1, 1, s.2.2.1, s.2.2.2.1, s.2.2.2.2.1, s.2.2.2.2.2.1, c - 97) else none)
     else if s.2.1 = 1 then (if inO (c - 48) s.2.2.1 then some (s.1, 2, s.2.2) else none)
     else (if inO (c - 48) 4 then some (68, s.2.1, s.2.2.1, s.2.2.2.1, s.2.2.2.2.1 + 1, s.2.2.2.2.2.1 ||| bto s.2.2.2.2.2.2, s.2.2.2.2.2.2) else none))
def rn (f : FA) : Nat → Nat → PS → Int32 × Int32 × Int32
  | 0, i, s => (if s.1 = 68 then -9 else Int32.ofInt (i : Nat), s.2.2.1, s.2.2.2.2.1)
  | n + 1, i, s => match stp s (f i) with
    | none => (Int32.ofInt (i : Nat), 0, 0)
    | some t => rn f n (i + 1) t
theorem rn_s {f : FA} {n i : Nat} {s t : PS} (h : stp s (f i) = some t) : rn f (n + 1) i s = rn f n (i + 1) t := by
  rw [rn, h]
theorem rn_n {f : FA} {n i : Nat} {s : PS} (h : stp s (f i) = none) : (rn f (n + 1) i s).1 = Int32.ofInt (i : Nat) := by
  rw [rn, h]
def ps0 : PS := (0, 0, 0, 0, 0, 0, 0)
def Rl (d : CS) (s : PS) : Prop := d.1 10 = s.1 ∧ d.1 11 = s.2.1 ∧ d.1 0 = s.2.2.1 ∧ d.1 8 = s.2.2.2.1 ∧ d.1 1 = s.2.2.2.2.1 ∧ d.1 9 = s.2.2.2.2.2.1 ∧ (¬ s.2.1 = 0 → d.1 12 = s.2.2.2.2.2.2)
theorem g_hasOwner {p : Int32} {d : CS} {Q : Int32 → Prop} (h1 : inO p (d.1 0) → Q 1) (h0 : ¬ inO p (d.1 0) → Q 0) : wp_X1_hasOwner p d Q := by
  unfold wp_X1_hasOwner
  have e0 : (0 : Int32).toInt = 0 := rfl
  rw [Int32.lt_iff_toInt_lt, Int32.le_iff_toInt_le]
  exact ⟨fun c => h0 (by omega), fun c => ⟨fun c2 => h0 (by omega), fun c2 => h1 (by omega)⟩⟩
theorem g_opens {c : Int32} {s : CS} {Q : Int32 → Prop} (h1 : opn (s.1 0) (s.1 8) (s.1 1) c → Q 1) (h0 : ¬ opn (s.1 0) (s.1 8) (s.1 1) c → Q 0) : wp_X1_opensPart c s Q := by
  unfold wp_X1_opensPart
  have e0 : (0 : Int32).toInt = 0 := rfl
  have e4 : (4 : Int32).toInt = 4 := rfl
  have e5 : (5 : Int32).toInt = 5 := rfl
  rw [Int32.le_iff_toInt_le, Int32.le_iff_toInt_le, Int32.le_iff_toInt_le]
  refine ⟨fun e => ⟨fun a => h0 ?_, fun a => ⟨fun b => h0 ?_, fun b => h1 ?_⟩⟩, fun n72 => ⟨fun e => ⟨fun a => h0 ?_, fun a => h1 ?_⟩, fun n79 => ⟨fun e => ⟨fun a => h0 ?_, fun a => ⟨fun b => h0 ?_, fun b => h1 ?_⟩⟩, fun n82 => h0 ?_⟩⟩⟩
  · subst e
    rintro (⟨q, _⟩ | ⟨q, _⟩ | ⟨_, q, _⟩)
    · exact absurd q (by decide)
    · exact absurd q (by decide)
    · omega
  · subst e
    rintro (⟨q, _⟩ | ⟨q, _⟩ | ⟨_, _, q⟩)
    · exact absurd q (by decide)
    · exact absurd q (by decide)
    · omega
  · exact Or.inr (Or.inr ⟨e, by omega, by omega⟩)
  · subst e
    rintro (⟨_, q⟩ | ⟨q, _⟩ | ⟨q, _⟩)
    · omega
    · exact absurd q (by decide)
    · exact absurd q (by decide)
  · exact Or.inl ⟨e, by omega⟩
  · subst e
    rintro (⟨q, _⟩ | ⟨_, q, _⟩ | ⟨q, _⟩)
    · exact absurd q (by decide)
    · omega
    · exact absurd q (by decide)
  · subst e
    rintro (⟨q, _⟩ | ⟨_, _, q⟩ | ⟨q, _⟩)
    · exact absurd q (by decide)
    · exact q b
    · exact absurd q (by decide)
  · exact Or.inr (Or.inl ⟨e, by omega, b⟩)
  · rintro (⟨q, _⟩ | ⟨q, _⟩ | ⟨q, _⟩)
    · exact n79 q
    · exact n82 q
    · exact n72 q
theorem g_bitOf {p : Int32} {Q : Int32 → Prop} (h : Q (bto p)) : wp_X2_bitOf p Q := by
  unfold wp_X2_bitOf
  unfold bto at h
  refine e_hasCell (fun v => ⟨fun c => absurd c (by decide), fun _ => ?_⟩) (fun v => ⟨fun _ => ?_, fun c => absurd rfl c⟩)
  · rw [if_pos v] at h
    exact h
  · rw [if_neg v] at h
    exact h
theorem g_in4 {p : Int32} {A B : Prop} (h1 : inO p 4 → A) (h0 : ¬ inO p 4 → B) : (p < 0 → B) ∧ (¬ p < 0 → ((p < (4 : Int32) → A) ∧ (¬ p < (4 : Int32) → B))) := by
  have e0 : (0 : Int32).toInt = 0 := rfl
  rw [Int32.lt_iff_toInt_lt, Int32.lt_iff_toInt_lt]
  exact ⟨fun c => h0 (by omega), fun c => ⟨fun c2 => h1 (by omega), fun c2 => h0 (by omega)⟩⟩
theorem g_reads {c : Int32} {d : CS} {s : PS} {Q : Int32 → CS → Prop} (hr : Rl d s) (h1 : ∀ e t, stp s c = some t → Rl e t → Q 1 e) (h0 : ∀ e, stp s c = none → Q 0 e) : wp_X1_reads c d Q := by
  obtain ⟨pa, pl, ow, ro, ho, ce, fi⟩ := s
  obtain ⟨r1, r2, r3, r4, r5, r6, e7⟩ := hr
  dsimp only at r1 r2 r3 r4 r5 r6 e7
  subst r1; subst r2; subst r3; subst r4; subst r5; subst r6
  unfold wp_X1_reads
  refine ⟨fun c0 => ?_, fun c0 => ⟨fun c1 => ?_, fun c1 => ⟨fun c2 => ?_, fun c2 => ⟨fun c3 => ?_, fun c3 => ?_⟩⟩⟩⟩
  · intro s2 e2
    refine ⟨fun cc => h0 _ (by simp only [stp, if_pos c0, if_neg cc]), fun cc => h1 s2 (68, d.1 11, d.1 0, d.1 8, d.1 1, d.1 9, fi) (by simp only [stp, if_pos c0, if_pos cc]) ?_⟩
    rw [e2]
    exact ⟨rfl, rfl, rfl, rfl, rfl, rfl, e7⟩
  · intro s5 e5 s6 e6
    have q0 : s6.1 0 = d.1 0 := by rw [e6, e5]; rfl
    have q1 : s6.1 1 = d.1 1 := by rw [e6, e5]; rfl
    have q8 : s6.1 8 = d.1 8 := by rw [e6, e5]; rfl
    refine g_opens (fun v => ⟨rfl, ?_⟩) (fun v => ⟨rfl, ?_⟩) <;> rw [q0, q1, q8] at v
    · refine h1 s6 (c, 0, d.1 0, d.1 8, d.1 1, d.1 9, fi) (by simp only [stp, if_neg c0, if_pos c1, if_pos v]) ?_
      rw [e6, e5]
      exact ⟨rfl, rfl, rfl, rfl, rfl, rfl, fun w => absurd rfl w⟩
    · exact h0 _ (by simp only [stp, if_neg c0, if_pos c1, if_neg v])
  · unfold wp_X1_readsOwner
    refine g_in4 (fun v => ?_) (fun v => ⟨rfl, h0 _ (by simp only [stp, if_neg c0, if_neg c1, if_pos c2, if_neg v])⟩)
    refine sf_X3_put (by decide) (fun f3 => ?_)
    intro s4 e4 s5 e5 s6 e6
    refine ⟨rfl, h1 s6 (68, d.1 11, d.1 0 + 1, d.1 8, d.1 1, d.1 9, fi) (by simp only [stp, if_neg c0, if_neg c1, if_pos c2, if_pos v]) ?_⟩
    rw [e6, e5, e4]
    exact ⟨rfl, rfl, rfl, rfl, rfl, rfl, e7⟩
  · unfold wp_X1_readsRow
    refine ⟨fun cp => ?_, fun cp => ?_⟩
    · have e8 := e7 cp
      refine g_hasOwner (fun v => ⟨fun _ => ?_, fun w => absurd w (by decide)⟩) (fun v => ⟨fun w => absurd rfl w, fun _ => ⟨rfl, h0 _ (by simp only [stp, if_neg c0, if_neg c1, if_neg c2, if_pos c3, if_neg cp, if_neg v])⟩⟩)
      refine sf_X3_put (by decide) (fun f5 => ?_)
      intro s6 e6 s7 e7b
      have g108 : ∀ s : CS, (∀ k, ¬ k = 7 → s.1 k = s7.1 k) → B_X1_readsRow_108 s (fun r t => narrow .boolean (.int r) = .int r ∧ Q r t) := by
        intro s hs
        unfold B_X1_readsRow_108
        intro t et
        refine ⟨rfl, h1 t (68, d.1 11, d.1 0, d.1 8 ||| ((1 : Int32) <<< (fi &&& 31)), d.1 1, d.1 9, fi) (by simp only [stp, if_neg c0, if_neg c1, if_neg c2, if_pos c3, if_neg cp, if_pos v]) ?_⟩
        have o : ∀ k, ¬ k = 10 → ¬ k = 7 → t.1 k = s7.1 k := by
          intro k k1 k2
          rw [et, sI_ne k1]
          exact hs k k2
        refine ⟨by rw [et, sI_eq], ?_, ?_, ?_, ?_, ?_, fun _ => ?_⟩
        · rw [o 11 (by decide) (by decide), e7b, e6]; rfl
        · rw [o 0 (by decide) (by decide), e7b, e6]; rfl
        · rw [o 8 (by decide) (by decide), e7b, sI_eq, e6, ← e8]; rfl
        · rw [o 1 (by decide) (by decide), e7b, e6]; rfl
        · rw [o 9 (by decide) (by decide), e7b, e6]; rfl
        · rw [o 12 (by decide) (by decide), e7b, e6]
          exact e8
      refine sf_X3_get (by decide) (fun r8 => ⟨fun _ => g108 s7 (fun _ _ => rfl), fun _ => sf_X2_rowCells (fun r10 => ?_)⟩)
      intro s11 e11
      exact g108 s11 (fun k hk => by rw [e11, sI_ne hk])
    · intro s12 e12 s13 e13
      have q8 : s13.1 8 = d.1 8 := by rw [e13, e12]; rfl
      have no : ¬ (inO (c - 48) 4 ∧ d.1 8 &&& ((1 : Int32) <<< ((c - 48) &&& 31)) = 0) → Q 0 s13 := fun w => h0 _ (by simp only [stp, if_neg c0, if_neg c1, if_neg c2, if_pos c3, if_pos cp, if_neg w])
      have e0 : (0 : Int32).toInt = 0 := rfl
      have e4 : (4 : Int32).toInt = 4 := rfl
      rw [q8, Int32.lt_iff_toInt_lt, Int32.le_iff_toInt_le]
      refine ⟨fun w => ⟨rfl, no (fun x => ?_)⟩, fun w => ⟨fun w2 => ⟨rfl, no (fun x => ?_)⟩, fun w2 => ⟨fun w3 => ⟨rfl, no (fun x => w3 x.2)⟩, fun w3 => ⟨rfl, ?_⟩⟩⟩⟩
      · have := x.1.1
        omega
      · have := x.1.2
        omega
      · have w4 : inO (c - 48) 4 ∧ d.1 8 &&& ((1 : Int32) <<< ((c - 48) &&& 31)) = 0 := ⟨⟨by omega, by omega⟩, w3⟩
        refine h1 s13 (82, 1, d.1 0, d.1 8, d.1 1, d.1 9, c - 48) (by simp only [stp, if_neg c0, if_neg c1, if_neg c2, if_pos c3, if_pos cp, if_pos w4]) ?_
        rw [e13, e12]
        exact ⟨c3, rfl, rfl, rfl, rfl, rfl, fun _ => rfl⟩
  · unfold wp_X1_readsHole
    intro x2 ex2
    subst ex2
    refine ⟨fun cp => ?_, fun cp => ⟨fun cq => ?_, fun cq => ?_⟩⟩
    · intro s3 e3 s4 e4
      have q12 : s4.1 12 = c - 97 := by rw [e4, sI_eq]
      have q9 : s4.1 9 = d.1 9 := by rw [e4, e3]; rfl
      have no : ¬ (isC (c - 97) ∧ d.1 9 &&& bto (c - 97) = 0) → Q 0 s4 := fun w => h0 _ (by simp only [stp, if_neg c0, if_neg c1, if_neg c2, if_neg c3, if_pos cp, if_neg w])
      rw [q12]
      refine e_hasCell (fun v => ⟨fun w => absurd w (by decide), fun _ => g_bitOf ?_⟩) (fun v => ⟨fun _ => ⟨rfl, no (fun x => v x.1)⟩, fun w => absurd rfl w⟩)
      rw [q9]
      refine ⟨fun w => ⟨rfl, no (fun x => w x.2)⟩, fun w => ⟨rfl, ?_⟩⟩
      have w4 : isC (c - 97) ∧ d.1 9 &&& bto (c - 97) = 0 := ⟨v, w⟩
      refine h1 s4 (d.1 10, 1, d.1 0, d.1 8, d.1 1, d.1 9, c - 97) (by simp only [stp, if_neg c0, if_neg c1, if_neg c2, if_neg c3, if_pos cp, if_pos w4]) ?_
      rw [e4, e3]
      exact ⟨rfl, rfl, rfl, rfl, rfl, rfl, fun _ => rfl⟩
    · intro s10 e10 s11 e11
      have q0 : s11.1 0 = d.1 0 := by rw [e11, e10]; rfl
      refine g_hasOwner (fun v => ⟨rfl, rfl, ?_⟩) (fun v => ⟨rfl, rfl, ?_⟩) <;> rw [q0] at v
      · refine h1 s11 (d.1 10, 2, d.1 0, d.1 8, d.1 1, d.1 9, fi) (by simp only [stp, if_neg c0, if_neg c1, if_neg c2, if_neg c3, if_neg cp, if_pos cq, if_pos v]) ?_
        rw [e11, e10]
        exact ⟨rfl, rfl, rfl, rfl, rfl, rfl, fun _ => e7 cp⟩
      · exact h0 _ (by simp only [stp, if_neg c0, if_neg c1, if_neg c2, if_neg c3, if_neg cp, if_pos cq, if_neg v])
    · refine g_in4 (fun v => ?_) (fun v => ⟨rfl, h0 _ (by simp only [stp, if_neg c0, if_neg c1, if_neg c2, if_neg c3, if_neg cp, if_neg cq, if_neg v])⟩)
      have e8 := e7 cp
      unfold wp_X1_addHole
      refine sf_X3_put (by decide) (fun f1 => ?_)
      intro s2 e2
      refine sf_X3_put (by decide) (fun f3 => ?_)
      intro s4 e4
      refine sf_X3_put (by decide) (fun f5 => ?_)
      intro s6 e6
      refine g_bitOf ?_
      intro s8 e8b s9 e9 s16 e16
      refine ⟨rfl, h1 s16 (68, d.1 11, d.1 0, d.1 8, d.1 1 + 1, d.1 9 ||| bto fi, fi) (by simp only [stp, if_neg c0, if_neg c1, if_neg c2, if_neg c3, if_neg cp, if_neg cq, if_pos v]) ?_⟩
      have o : ∀ k, ¬ k = 10 → ¬ k = 1 → ¬ k = 9 → s16.1 k = d.1 k := by
        intro k k1 k2 k3
        rw [e16, sI_ne k1, e9, sI_ne k2, e8b, sI_ne k3, e6, e4, e2]
        rfl
      refine ⟨by rw [e16, sI_eq], o 11 (by decide) (by decide) (by decide), o 0 (by decide) (by decide) (by decide), o 8 (by decide) (by decide) (by decide), ?_, ?_, fun _ => (o 12 (by decide) (by decide) (by decide)).trans e8⟩
      · rw [e16, sI_ne (by decide), e9, sI_eq, e8b, sI_ne (by decide), e6, e4, e2]
        rfl
      · rw [e16, sI_ne (by decide), e9, sI_ne (by decide), e8b, sI_eq, e6, e4, e2, e8]
        rfl
theorem g_readAll {len : Int32} {n : Nat} {d : CS} {f : FA} {Q : Int32 → CS → FA → Prop} (hl : len.toInt = n) (hn : n ≤ 48) (h : ∀ r e, r = (rn f n 0 ps0).1 → (r = -9 → e.1 0 = (rn f n 0 ps0).2.1 ∧ e.1 1 = (rn f n 0 ps0).2.2) → Q r e f) : wp_X1_readAll len 48 d f Q := by
  obtain ⟨R, hR⟩ : ∃ R, R = rn f n 0 ps0 := ⟨_, rfl⟩
  rw [← hR] at h
  unfold wp_X1_readAll wp_X1_forget
  intro s1 e1 s2 e2
  refine sf_J7_fill_53178 (by decide) (fun f3 => ?_)
  intro s4 e4
  refine sf_J7_fill_53178 (by decide) (fun f5 => ?_)
  intro s6 e6 s7 e7 s8 e8 s9 e9 s10 e10 s11 e11
  have r11 : Rl s11 ps0 := by
    rw [e11, e10, e9, e8, e7, e6, e4, e2, e1]
    exact ⟨rfl, rfl, rfl, rfl, rfl, rfl, fun w => absurd rfl w⟩
  clear e1 e2 e4 e6 e7 e8 e9 e10 e11
  unfold B_X1_readAll_6
  refine LOOP_c n (fun i z => z.1 = len ∧ z.2.1.toInt = (i : Int) ∧ z.2.2.2 = f ∧ ∃ s, Rl z.2.2.1 s ∧ rn f (n - i) i s = R) _ ⟨rfl, rfl, rfl, ps0, r11, hR.symm⟩ ?_
  rintro i ⟨x2, x3, e, f2⟩ G hi ⟨k1, k2, k3, s, k4, k5⟩ hG
  change LB_X1_readAll_6 G 48 x2 x3 e f2 Q
  dsimp only at k1 k2 k3 k4
  subst k1; subst k3
  have fin : i = n → B_X1_readAll_35 48 x2 e f2 Q := by
    intro ei
    rw [ei, Nat.sub_self, rn] at k5
    unfold B_X1_readAll_35
    refine ⟨fun w => h _ e ?_ ?_, fun w => h _ e ?_ ?_⟩
    · rw [← k5]
      show x2 = if s.1 = 68 then -9 else Int32.ofInt (n : Nat)
      rw [if_neg (by rw [← k4.1]; exact w)]
      exact ti_of hl
    · intro q
      rw [q, n9] at hl
      omega
    · rw [← k5]
      show -9 = if s.1 = 68 then -9 else Int32.ofInt (n : Nat)
      rw [if_pos (by rw [← k4.1]; exact w)]
    · intro _
      rw [← k5]
      exact ⟨k4.2.2.1, k4.2.2.2.2.1⟩
  have e48 : (nI 48).toInt = ((48 : Nat) : Int) := nI_toInt (by decide)
  unfold LB_X1_readAll_6
  refine ⟨fun c => fin ?_, fun c => ⟨fun c2 => fin ?_, fun c2 => ?_⟩⟩
  · rw [ti_ge k2 hl] at c
    omega
  · rw [ti_ge k2 e48] at c2
    omega
  have c1 : i < n := by rw [ti_ge k2 hl] at c; omega
  refine ⟨ti_in k2 (by omega), ?_⟩
  rw [show n - i = (n - (i + 1)) + 1 by omega] at k5
  rw [ti_cl k2]
  refine g_reads k4 (fun e2 t q1 q2 => ⟨fun _ => ?_, fun w => absurd w (by decide)⟩) (fun e2 q1 => ⟨fun w => absurd rfl w, fun _ => h _ e2 ?_ ?_⟩)
  · intro x4 e4
    subst e4
    refine hG _ c1 ⟨rfl, ti_add k2 (by omega), rfl, t, q2, ?_⟩
    rw [← k5]
    exact (rn_s q1).symm
  · rw [← k5, rn_n q1]
    exact ti_of k2
  · intro q
    rw [q, n9] at k2
    omega
