abbrev hasb (al v : Int32) : Prop := (al >>> (v &&& 31)) &&& 1 = 1
theorem bt_1 : ∀ k, k < 20 → ∀ j, j < 32 → bt ((1 : Int32) <<< (Int32.ofInt (k : Nat) &&& 31)) j = decide (j = k) := by
  unfold bt
  decide +kernel
theorem bit_and {x : Int32} {k : Nat} (hk : k < 20) : x &&& ((1 : Int32) <<< (Int32.ofInt (k : Nat) &&& 31)) = 0 ↔ bt x k = false := by
  constructor
  · intro h
    have h2 : bt (x &&& ((1 : Int32) <<< (Int32.ofInt (k : Nat) &&& 31))) k = bt 0 k := by rw [h]
    rw [bt_and, bt_1 k hk k (by omega), decide_eq_true rfl, Bool.and_true] at h2
    rw [h2]
    unfold bt
    exact BitVec.getLsbD_zero
  · intro h
    refine Int32.toBitVec_inj.mp (BitVec.eq_of_getLsbD_eq (fun j hj => ?_))
    show bt (x &&& ((1 : Int32) <<< (Int32.ofInt (k : Nat) &&& 31))) j = bt 0 j
    rw [bt_and, bt_1 k hk j hj, show bt 0 j = false from BitVec.getLsbD_zero]
    by_cases e : j = k
    · subst e
      rw [h]
      rfl
    · rw [decide_eq_false e]
      exact Bool.and_false _
theorem has_cell {x v : Int32} (hv : isC v) : hasb ((1048575 : Int32) &&& (x ^^^ (-1 : Int32))) v ↔ x &&& bto v = 0 := by
  rw [bto, if_pos hv]
  obtain ⟨k, hk, _, e⟩ := isC_n hv
  subst e
  have full : ∀ k, k < 20 → bt 1048575 k = true := by
    unfold bt
    decide +kernel
  show (_ >>> _) &&& 1 = 1 ↔ _
  rw [bt_shr hk, bit_and hk, bt_and, full k hk, bt_not hk]
  cases bt x k <;> decide
theorem own_b : ∀ w, w < 5 → ∀ r, r < 20 → ((((((1 : Int32) <<< (Int32.ofInt (w : Nat) &&& 31)) - (1 : Int32)) >>> (Int32.ofInt (r : Nat) &&& 31)) &&& 1 = 1) ↔ r < w) := by decide +kernel
theorem row_b : ∀ w, w < 16 → ∀ r, r < 20 → (((((15 : Int32) &&& (Int32.ofInt (w : Nat) ^^^ (-1 : Int32))) >>> (Int32.ofInt (r : Nat) &&& 31)) &&& 1 = 1) ↔ (r < 4 ∧ Int32.ofInt (w : Nat) &&& ((1 : Int32) <<< (Int32.ofInt (r : Nat) &&& 31)) = 0)) := by decide +kernel
theorem b_15 : ∀ r, r < 20 → ((((15 : Int32) >>> (Int32.ofInt (r : Nat) &&& 31)) &&& 1 = 1) ↔ r < 4) := by decide +kernel
theorem has_15 {v : Int32} (hv : isC v) (h : hasb 15 v) : inO v 4 := by
  obtain ⟨k, hk, e1, e⟩ := isC_n hv
  rw [e] at h
  have := (b_15 k hk).mp h
  have z4 : (4 : Int32).toInt = 4 := rfl
  exact ⟨by omega, by omega⟩
theorem n15_has {v : Int32} (h : inO v 4) : isC v ∧ hasb 15 v := by
  have z4 : (4 : Int32).toInt = 4 := rfl
  have h1 := h.1
  have h2 := h.2
  have hv : isC v := ⟨by omega, by omega⟩
  refine ⟨hv, ?_⟩
  obtain ⟨k, hk, e1, e⟩ := isC_n hv
  rw [e]
  exact (b_15 k hk).mpr (by omega)
theorem has_own {w v : Int32} {W : Nat} (hw : w.toInt = W) (hW : W < 5) (hv : isC v) (h : hasb (((1 : Int32) <<< (w &&& 31)) - (1 : Int32)) v) : inO v w := by
  obtain ⟨k, hk, e1, e⟩ := isC_n hv
  rw [e, ti_of hw] at h
  have := (own_b W hW k hk).mp h
  exact ⟨by omega, by omega⟩
theorem own_has {w v : Int32} {W : Nat} (hw : w.toInt = W) (hW : W < 5) (h : inO v w) : isC v ∧ hasb (((1 : Int32) <<< (w &&& 31)) - (1 : Int32)) v := by
  have h1 := h.1
  have h2 := h.2
  have hv : isC v := ⟨by omega, by omega⟩
  refine ⟨hv, ?_⟩
  obtain ⟨k, hk, e1, e⟩ := isC_n hv
  rw [e, ti_of hw]
  exact (own_b W hW k hk).mpr (by omega)
theorem has_row {w v : Int32} (hw : 0 ≤ w.toInt ∧ w.toInt ≤ 15) (hv : isC v) (h : hasb ((15 : Int32) &&& (w ^^^ (-1 : Int32))) v) : inO v 4 ∧ w &&& ((1 : Int32) <<< (v &&& 31)) = 0 := by
  obtain ⟨k, hk, e1, e⟩ := isC_n hv
  obtain ⟨W, hW⟩ := nat_of hw.1
  rw [e, ti_of hW] at h
  have := (row_b W (by omega) k hk).mp h
  have z4 : (4 : Int32).toInt = 4 := rfl
  refine ⟨⟨by omega, by omega⟩, ?_⟩
  rw [e, ti_of hW]
  exact this.2
theorem row_has {w v : Int32} (hw : 0 ≤ w.toInt ∧ w.toInt ≤ 15) (h : inO v 4) (h2 : w &&& ((1 : Int32) <<< (v &&& 31)) = 0) : isC v ∧ hasb ((15 : Int32) &&& (w ^^^ (-1 : Int32))) v := by
  have z4 : (4 : Int32).toInt = 4 := rfl
  have q1 := h.1
  have q2 := h.2
  have hv : isC v := ⟨by omega, by omega⟩
  refine ⟨hv, ?_⟩
  obtain ⟨k, hk, e1, e⟩ := isC_n hv
  obtain ⟨W, hW⟩ := nat_of hw.1
  rw [e, ti_of hW] at h2
  rw [e, ti_of hW]
  exact (row_b W (by omega) k hk).mpr ⟨by omega, h2⟩
def Dx (f : FA) (n : Nat) (R : Int32 × Int32 × Int32) (s : CS) (ps : PS) : Prop := (s.1 16 = -9 ∧ ∃ j k : Nat, (s.1 15).toInt = (j : Int) ∧ j + k = n ∧ rn f k j ps = R) ∨ (¬ s.1 16 = -9 ∧ R.1 = s.1 16)
def DD (f : FA) (n : Nat) (R : Int32 × Int32 × Int32) (s : CS) : Prop := ∃ pl fi, Dx f n R s (68, pl, s.1 9, s.1 10, s.1 11, s.1 12, fi)
theorem Dx_same {f : FA} {n : Nat} {R : Int32 × Int32 × Int32} {s t : CS} {ps : PS} (h : Dx f n R s ps) (h15 : t.1 15 = s.1 15) (h16 : t.1 16 = s.1 16) : Dx f n R t ps := by
  unfold Dx
  rw [h15, h16]
  exact h
theorem Dx_any {f : FA} {n : Nat} {R : Int32 × Int32 × Int32} {s : CS} {ps ps2 : PS} (h16 : ¬ s.1 16 = -9) (h : Dx f n R s ps) : Dx f n R s ps2 := by
  rcases h with h | h
  · exact absurd h.1 h16
  · exact Or.inr h
theorem Dx_rej {f : FA} {n : Nat} {R : Int32 × Int32 × Int32} {s : CS} {ps : PS} (h : Dx f n R s ps) (h16 : s.1 16 = -9) (hlt : (s.1 15).toInt < (n : Int)) (hs : stp ps (f (s.1 15).toNatClampNeg) = none) : R.1 = s.1 15 := by
  rcases h with ⟨_, j, k, e1, e2, e3⟩ | h
  · rw [ti_cl e1] at hs
    rw [show k = (k - 1) + 1 by omega] at e3
    rw [← e3, rn_n hs]
    exact (ti_of e1).symm
  · exact absurd h16 h.1
theorem Dx_step {f : FA} {n : Nat} {R : Int32 × Int32 × Int32} {s t : CS} {ps s' : PS} (h : Dx f n R s ps) (h16 : s.1 16 = -9) (hlt : (s.1 15).toInt < (n : Int)) (hn : n ≤ 48) (hs : stp ps (f (s.1 15).toNatClampNeg) = some s') (h15 : t.1 15 = s.1 15 + 1) (h17 : t.1 16 = s.1 16) : Dx f n R t s' := by
  rcases h with ⟨_, j, k, e1, e2, e3⟩ | h
  · rw [ti_cl e1] at hs
    rw [show k = (k - 1) + 1 by omega, rn_s hs] at e3
    refine Or.inl ⟨h17.trans h16, j + 1, k - 1, ?_, by omega, e3⟩
    rw [h15]
    exact ti_add e1 (by omega)
  · exact absurd h16 h.1
theorem q_told {z al : Int32} {s : CS} {f : FA} {n : Nat} {R : Int32 × Int32 × Int32} {ps : PS} {g : Int32 → PS} {Q : Int32 → CS → Prop} (h15 : 0 ≤ (s.1 15).toInt ∧ (s.1 15).toInt ≤ 48) (hn : (s.1 14).toInt = n) (h14 : (s.1 14).toInt ≤ 48) (hf : s.2.1 13 = f) (hD : Dx f n R s ps) (h68 : ¬ ps.1 = 68) (acc : ∀ c, isC (c - z) → hasb al (c - z) → stp ps c = some (g (c - z))) (rej : ∀ c, ¬ (isC (c - z) ∧ hasb al (c - z)) → stp ps c = none) (h : ∀ r t, Tl s t → (r = 0 ∨ (0 ≤ r.toInt ∧ r.toInt < 20) ∧ (al >>> (r &&& 31)) &&& 1 = 1) → Dx f n R t (g r) → Q r t) : wp_X7_told z al s Q := by
  obtain ⟨A, hA⟩ := nat_of h15.1
  have n15 : ¬ s.1 15 = -9 := by
    intro e
    rw [e] at h15
    exact absurd h15.1 (by decide)
  have h73 : (s.1 16 = -9 → R.1 = s.1 15) → B_X7_told_73 s Q := by
    intro w
    unfold B_X7_told_73 B_X7_told_94
    refine ⟨fun c => ?_, fun c => ?_⟩
    · intro t e
      subst e
      refine h _ _ ⟨rfl, fun k _ k2 => if_neg k2, by show (s.1 15).toInt ≤ (s.1 15).toInt; omega, h15.2, Or.inl rfl⟩ (Or.inl rfl) ?_
      exact Dx_any (ps := ps) c (Dx_same (t := sI s 16 (s.1 16)) hD rfl rfl)
    · intro t e
      subst e
      refine h _ _ ⟨rfl, fun k _ k2 => if_neg k2, by show (s.1 15).toInt ≤ (s.1 15).toInt; omega, h15.2, Or.inr n15⟩ (Or.inl rfl) (Or.inr ⟨n15, w c⟩)
  have h24 : (s.1 16 = -9 → R.1 = s.1 15) → B_X7_told_24 z al s Q := by
    intro w
    unfold B_X7_told_24 B_X7_told_25 B_X7_told_45
    exact ⟨fun _ => ⟨fun _ => h73 w, fun c => absurd rfl c⟩, fun c => absurd rfl c⟩
  unfold wp_X7_told
  refine ⟨fun c => h24 (fun w => absurd w c), fun c => ⟨fun c2 => h24 (fun w => ?_), fun c2 => ?_⟩⟩
  · rw [Int32.le_iff_toInt_le] at c2
    rcases hD with ⟨_, j, k, e1, e2, e3⟩ | q
    · have k0 : k = 0 := by omega
      subst k0
      rw [← e3, rn]
      show (if ps.1 = 68 then (-9 : Int32) else Int32.ofInt (j : Nat)) = s.1 15
      rw [if_neg h68]
      exact (ti_of e1).symm
    · exact absurd w q.1
  rw [Int32.le_iff_toInt_le] at c2
  have hlt : (s.1 15).toInt < (n : Int) := by omega
  obtain ⟨c0, hc0⟩ : ∃ c0, c0 = f (s.1 15).toNatClampNeg := ⟨_, rfl⟩
  have no : ¬ (isC (c0 - z) ∧ hasb al (c0 - z)) → s.1 16 = -9 → R.1 = s.1 15 := fun v w => Dx_rej hD w hlt (by rw [← hc0]; exact rej c0 v)
  unfold B_X7_told_25
  refine ⟨fun c => absurd c (by decide), fun _ => ⟨by rw [vp_in_iff]; omega, ?_⟩⟩
  rw [hf, ← hc0]
  unfold B_X7_told_45
  refine ⟨fun c => absurd c (by decide), fun _ => e_in3 0 19 rfl rfl (fun a b => ⟨fun c => absurd c (by decide), fun _ => ?_⟩) (fun v => ⟨fun _ => h73 (no (fun q => ?_)), fun c => absurd rfl c⟩)⟩
  · have ic : isC (c0 - z) := ⟨a, by omega⟩
    unfold wp_X7_has
    refine ⟨fun c3 => ⟨fun c => absurd rfl c, fun _ => h73 (no (fun q => c3 q.2))⟩, fun c3 => ⟨fun _ => ?_, fun c => absurd c (by decide)⟩⟩
    intro t e
    have h1 : (t.1 15).toInt = ((A + 1 : Nat) : Int) := by
      rw [e]
      exact ti_add hA (by omega)
    refine h _ t ⟨by rw [e]; rfl, fun k k1 _ => by rw [e]; exact if_neg k1, by omega, by omega, Or.inl (by rw [e]; rfl)⟩ (Or.inr ⟨by omega, c3⟩) ?_
    exact Dx_step hD c hlt (by omega) (by rw [← hc0]; exact acc c0 ic c3) (by rw [e, sI_eq]) (by rw [e, sI_ne (by decide)])
  · have := q.1.1
    have := q.1.2
    omega
theorem t72 : ¬ (72 : Int32) = 68 := by decide
theorem t82 : ¬ (82 : Int32) = 68 := by decide
theorem t79 : ¬ (79 : Int32) = 68 := by decide
theorem h68a : ((68 : Int32) = 0) = False := eq_false (by decide)
theorem h72a : ((72 : Int32) = 0) = False := eq_false (by decide)
theorem h72b : ((72 : Int32) = 68) = False := eq_false (by decide)
theorem h72c : ((72 : Int32) = 79) = False := eq_false (by decide)
theorem h72d : ((72 : Int32) = 82) = False := eq_false (by decide)
theorem h82a : ((82 : Int32) = 0) = False := eq_false (by decide)
theorem h82b : ((82 : Int32) = 68) = False := eq_false (by decide)
theorem h82c : ((82 : Int32) = 79) = False := eq_false (by decide)
theorem h79a : ((79 : Int32) = 0) = False := eq_false (by decide)
theorem h79b : ((79 : Int32) = 68) = False := eq_false (by decide)
theorem h10 : ((1 : Int32) = 0) = False := eq_false (by decide)
theorem h20 : ((2 : Int32) = 0) = False := eq_false (by decide)
theorem h21 : ((2 : Int32) = 1) = False := eq_false (by decide)
theorem q_readPart {p : Int32} {s : CS} {f : FA} {n : Nat} {R : Int32 × Int32 × Int32} {pl fi : Int32} {Q : CS → Prop} (hs : Ri s) (hlt : (s.1 15).toInt < (s.1 14).toInt) (hf : s.2.1 13 = f) (hn : (s.1 14).toInt = n) (h16 : s.1 16 = -9) (hp : p = f (s.1 15).toNatClampNeg) (hD : Dx f n R s (68, pl, s.1 9, s.1 10, s.1 11, s.1 12, fi)) (h : ∀ t, Pg s t → DD f n R t → Q t) : wp_X7_readPart p s Q := by
  obtain ⟨A, hA⟩ := nat_of hs.2.2.1.1
  obtain ⟨W, hW⟩ := nat_of hs.1.1.1
  have hW4 : W ≤ 4 := by have := hs.1.1.2; omega
  have h14 := hs.2.2.2.2
  have n15 : ¬ s.1 15 = -9 := by
    intro e
    rw [e] at hA
    exact absurd hA (by rw [n9]; omega)
  have h299 : ¬ opn (s.1 9) (s.1 10) (s.1 11) p → B_X7_readPart_299 s Q := by
    intro no
    unfold B_X7_readPart_299
    intro t e
    subst e
    refine h _ ⟨hs, Rp_I (by omega), Or.inl n15⟩ ⟨0, 0, Or.inr ⟨n15, ?_⟩⟩
    have := Dx_rej hD h16 (by omega) (by rw [← hp]; simp only [stp, h68a, ↓reduceIte, if_neg no])
    exact this
  have op : opn (s.1 9) (s.1 10) (s.1 11) p → ∀ t, t = sI s 15 ((s.1 15) + 1) → Dx f n R t (p, 0, s.1 9, s.1 10, s.1 11, s.1 12, fi) := by
    intro yes t e
    refine Dx_step hD h16 (by omega) (by omega) (s' := (p, 0, s.1 9, s.1 10, s.1 11, s.1 12, fi)) (by rw [← hp]; simp only [stp, h68a, ↓reduceIte, if_pos yes]) ?_ ?_
    · rw [e, sI_eq]
    · rw [e, sI_ne (by decide)]
  have z0 : (0 : Int32).toInt = 0 := rfl
  have z4 : (4 : Int32).toInt = 4 := rfl
  have z5 : (5 : Int32).toInt = 5 := rfl
  have st1 : ∀ t, t = sI s 15 ((s.1 15) + 1) → Ri t ∧ Rp s t ∧ (t.1 15).toInt = ((A + 1 : Nat) : Int) := by
    intro t e
    have g : (t.1 15).toInt = ((A + 1 : Nat) : Int) := by
      rw [e]
      exact ti_add hA (by omega)
    refine ⟨⟨?_, ?_, by omega, ?_⟩, by rw [e]; exact Rp_I (by omega), g⟩
    · rw [e]
      exact hs.1
    · rw [e]
      exact hs.2.1
    · rw [e]
      exact hs.2.2.2
  unfold wp_X7_readPart
  intro x2 e2
  have h174 : ¬ (p = 79 ∧ (s.1 9).toInt < 4) → ¬ (p = 82 ∧ 0 < (s.1 9).toInt ∧ ¬ s.1 10 = 15) → B_X7_readPart_174 p x2 s Q := by
    intro w1 w2
    unfold B_X7_readPart_174
    refine ⟨fun a => h299 (fun q => q.elim w1 (fun q => q.elim w2 (fun q => a q.1))), fun a => ⟨fun b => h299 (fun q => q.elim w1 (fun q => q.elim w2 (fun q => ?_))), fun b => ⟨fun c => h299 (fun q => q.elim w1 (fun q => q.elim w2 (fun q => ?_))), fun c5 => ?_⟩⟩⟩
    · rw [Int32.le_iff_toInt_le] at b
      have := q.2.1
      omega
    · rw [Int32.le_iff_toInt_le] at c
      have := q.2.2
      omega
    have yes : opn (s.1 9) (s.1 10) (s.1 11) p := by
      rw [Int32.le_iff_toInt_le] at b c5
      exact Or.inr (Or.inr ⟨a, by omega, by omega⟩)
    intro s5 e5
    have d5 := op yes s5 e5
    rw [a] at d5
    have f5 : s5.2.1 13 = f := by rw [e5]; exact hf
    have l5 : (s5.1 14).toInt = (n : Int) := by rw [e5]; exact hn
    have q5 : s5.1 12 = s.1 12 := by rw [e5]; rfl
    rw [q5]
    obtain ⟨i5, p5, a5⟩ := st1 s5 e5
    refine q_told (g := fun r => (72, 1, s.1 9, s.1 10, s.1 11, s.1 12, r)) i5.2.2.1 l5 i5.2.2.2.2 f5 d5 t72 (fun c v1 v2 => ?_) (fun c v => ?_) (fun r7 s6 t6 b7 d6 => ?_)
    · have w : isC (c - 97) ∧ s.1 12 &&& bto (c - 97) = 0 := ⟨v1, (has_cell v1).mp v2⟩
      simp only [stp, h72a, h72b, h72c, h72d, ↓reduceIte, if_pos w]
    · have w : ¬ (isC (c - 97) ∧ s.1 12 &&& bto (c - 97) = 0) := fun q => v ⟨q.1, (has_cell q.1).mpr q.2⟩
      simp only [stp, h72a, h72b, h72c, h72d, ↓reduceIte, if_neg w]
    have i6 := Tl_i t6 i5
    have p6 := Rp_t p5 (Tl_R t6)
    obtain ⟨H, hH⟩ := nat_of i6.1.2.1.1
    have e11 : s6.1 11 = s.1 11 := by rw [t6.2.1 11 (by decide) (by decide), e5]; rfl
    have hH5 : H < 5 := by
      rw [e11] at hH
      rw [ti_ge hH (show (5 : Int32).toInt = ((5 : Nat) : Int) from rfl)] at c5
      omega
    have r7c : 0 ≤ r7.toInt ∧ r7.toInt < 20 := by
      rcases b7 with e | ⟨e, _⟩
      · subst e
        decide
      · exact e
    have h3 := ti_mul (show (3 : Int32).toInt = ((3 : Nat) : Int) from rfl) hH (by omega)
    refine ⟨ti_in h3 (by omega), ?_⟩
    intro s9 e9
    rw [ti_cl h3] at e9
    have i9 : Ri s9 := by
      obtain ⟨⟨b1, b2, b3, b4⟩, b5, b6, b7⟩ := i6
      rw [e9]
      refine ⟨⟨b1, b2, ?_, fun k hk => ?_⟩, b5, b6, b7⟩
      · rw [sA_ne (by decide)]
        exact b3
      · rw [sA_get, sA_get, if_neg (by omega : ¬ 3 * k + 1 = 3 * H)]
        by_cases e : k = H
        · rw [if_pos (by omega)]
          exact ⟨r7c, (b4 k hk).2⟩
        · rw [if_neg (by omega)]
          exact b4 k hk
    have p9 : Rp s s9 := by
      rw [e9]
      exact Rp_t p6 (Rp_A (by omega))
    have d9 := Dx_same (t := s9) d6 (by rw [e9]; rfl) (by rw [e9]; rfl)
    have f9 : s9.2.1 13 = f := (p9.2.2 13 (by decide) (by decide) (by decide)).trans hf
    have l9 : (s9.1 14).toInt = (n : Int) := by
      rw [p9.2.1 14 (by decide) (by decide) (by decide) (by decide) (by decide) (by decide)]
      exact hn
    refine q_told (g := fun _ => (72, 2, s.1 9, s.1 10, s.1 11, s.1 12, r7)) i9.2.2.1 l9 i9.2.2.2.2 f9 d9 t72 (fun c v1 v2 => ?_) (fun c v => ?_) (fun r11 s10 t10 b11 d10 => ?_)
    · have w : inO (c - 48) (s.1 9) := has_own hW (by omega) v1 (by rw [← e2]; exact v2)
      simp only [stp, h72a, h72b, h72c, h72d, h10, ↓reduceIte, if_pos w]
    · have w : ¬ inO (c - 48) (s.1 9) := fun q => v (by rw [e2]; exact own_has hW (by omega) q)
      simp only [stp, h72a, h72b, h72c, h72d, h10, ↓reduceIte, if_neg w]
    have i10 := Tl_i t10 i9
    have p10 := Rp_t p9 (Tl_R t10)
    rw [e2] at b11
    have r11c := told_own hW (by omega) b11
    have hH9 : (s9.1 11).toInt = (H : Int) := by rw [e9]; exact hH
    have h3b := ti_add2 (ti_mul (show (3 : Int32).toInt = ((3 : Nat) : Int) from rfl) hH9 (by omega)) (show (1 : Int32).toInt = ((1 : Nat) : Int) from rfl) (by omega)
    refine ⟨ti_in h3b (by omega), ?_⟩
    intro s13 e13
    rw [ti_cl h3b] at e13
    have i13 : Ri s13 := by
      obtain ⟨⟨b1, b2, b3, b4⟩, b5, b6, b7⟩ := i10
      rw [e13]
      refine ⟨⟨b1, b2, ?_, fun k hk => ?_⟩, b5, b6, b7⟩
      · rw [sA_ne (by decide)]
        exact b3
      · rw [sA_get, sA_get, if_neg (by omega : ¬ 3 * k = 3 * H + 1)]
        by_cases e : k = H
        · rw [if_pos (by omega)]
          exact ⟨(b4 k hk).1, r11c⟩
        · rw [if_neg (by omega)]
          exact b4 k hk
    have p13 : Rp s s13 := by
      rw [e13]
      exact Rp_t p10 (Rp_A (by omega))
    have d13 := Dx_same (t := s13) d10 (by rw [e13]; rfl) (by rw [e13]; rfl)
    have f13 : s13.2.1 13 = f := (p13.2.2 13 (by decide) (by decide) (by decide)).trans hf
    have l13 : (s13.1 14).toInt = (n : Int) := by
      rw [p13.2.1 14 (by decide) (by decide) (by decide) (by decide) (by decide) (by decide)]
      exact hn
    refine q_told (g := fun _ => (68, 2, s.1 9, s.1 10, s.1 11 + 1, s.1 12 ||| bto r7, r7)) i13.2.2.1 l13 i13.2.2.2.2 f13 d13 t72 (fun c v1 v2 => ?_) (fun c v => ?_) (fun r15 s14 t14 _ d14 => ?_)
    · have w : inO (c - 48) 4 := has_15 v1 v2
      simp only [stp, h72a, h72b, h72c, h72d, h20, h21, ↓reduceIte, if_pos w]
    · have w : ¬ inO (c - 48) 4 := fun q => v (n15_has q)
      simp only [stp, h72a, h72b, h72c, h72d, h20, h21, ↓reduceIte, if_neg w]
    have i14 := Tl_i t14 i13
    have p14 := Rp_t p13 (Tl_R t14)
    have hH13 : (s13.1 11).toInt = (H : Int) := by
      rw [e13]
      show (s10.1 11).toInt = _
      rw [t10.2.1 11 (by decide) (by decide)]
      exact hH9
    have h3c := ti_add2 (ti_mul (show (3 : Int32).toInt = ((3 : Nat) : Int) from rfl) hH13 (by omega)) (show (2 : Int32).toInt = ((2 : Nat) : Int) from rfl) (by omega)
    refine ⟨ti_in h3c (by omega), ?_⟩
    intro s17 e17 s18 e18 s19 e19
    rw [ti_cl h3c] at e17
    have hH14 : (s14.1 11).toInt = (H : Int) := by
      rw [t14.2.1 11 (by decide) (by decide)]
      exact hH13
    have g11 : (s19.1 11).toInt = ((H + 1 : Nat) : Int) := by
      rw [e19, e18, e17]
      exact ti_add hH14 (by omega)
    have gk : ∀ k, ¬ k = 11 → ¬ k = 12 → s19.1 k = s14.1 k := by
      intro k k1 k2
      rw [e19, e18, e17]
      show upd (upd s14.1 12 _) 11 _ k = s14.1 k
      simp only [upd]
      rw [if_neg k1, if_neg k2]
    have gr : s19.2.1 = (sA s14 8 (3 * H + 2) r15).2.1 := by
      rw [e19, e18, e17]
      rfl
    have gl : s19.2.2 = s14.2.2 := by
      rw [e19, e18, e17]
      rfl
    refine h s19 ⟨⟨⟨by rw [gk 9 (by decide) (by decide)]; exact i14.1.1, by omega, ?_, fun k hk => ?_⟩, by rw [gk 10 (by decide) (by decide)]; exact i14.2.1, by rw [gk 15 (by decide) (by decide)]; exact i14.2.2.1, by rw [gk 14 (by decide) (by decide)]; exact i14.2.2.2⟩, Rp_t p14 ⟨gl, fun k _ _ k3 k4 _ _ => gk k k3 k4, fun k k1 k2 k3 => by rw [gr, sA_ne (by omega)]⟩, Or.inr ?_⟩ ⟨2, r7, ?_⟩
    · rw [gr, sA_ne (by decide)]
      exact i14.1.2.2.1
    · rw [gr, sA_get, sA_get, if_neg (by omega), if_neg (by omega)]
      exact i14.1.2.2.2 k hk
    · rw [gk 15 (by decide) (by decide)]
      have q1 := t6.2.2.1
      have q2 := t10.2.2.1
      have q3 := t14.2.2.1
      have q4 : (s9.1 15).toInt = (s6.1 15).toInt := by rw [e9]; rfl
      have q5 : (s13.1 15).toInt = (s10.1 15).toInt := by rw [e13]; rfl
      omega
    · have y9 : s14.1 9 = s.1 9 := by rw [t14.2.1 9 (by decide) (by decide), e13]; show s10.1 9 = _; rw [t10.2.1 9 (by decide) (by decide), e9]; show s6.1 9 = _; rw [t6.2.1 9 (by decide) (by decide), e5]; rfl
      have y10 : s14.1 10 = s.1 10 := by rw [t14.2.1 10 (by decide) (by decide), e13]; show s10.1 10 = _; rw [t10.2.1 10 (by decide) (by decide), e9]; show s6.1 10 = _; rw [t6.2.1 10 (by decide) (by decide), e5]; rfl
      have y11 : s14.1 11 = s.1 11 := by rw [t14.2.1 11 (by decide) (by decide), e13]; show s10.1 11 = _; rw [t10.2.1 11 (by decide) (by decide), e9]; exact e11
      have y12 : s14.1 12 = s.1 12 := by rw [t14.2.1 12 (by decide) (by decide), e13]; show s10.1 12 = _; rw [t10.2.1 12 (by decide) (by decide), e9]; show s6.1 12 = _; rw [t6.2.1 12 (by decide) (by decide), e5]; rfl
      have x11 : s19.1 11 = s.1 11 + 1 := by rw [e19, sI_eq, e18, sI_ne (by decide), e17, ← y11]; rfl
      have x12 : s19.1 12 = s.1 12 ||| bto r7 := by rw [e19, sI_ne (by decide), e18, sI_eq, e17, ← y12, bto, if_pos r7c]; rfl
      rw [gk 9 (by decide) (by decide), gk 10 (by decide) (by decide), x11, x12, y9, y10]
      exact Dx_same d14 (gk 15 (by decide) (by decide)) (gk 16 (by decide) (by decide))
  have h63 : ¬ (p = 79 ∧ (s.1 9).toInt < 4) → B_X7_readPart_63 p x2 s Q := by
    intro w1
    unfold B_X7_readPart_63
    refine ⟨fun a => h174 w1 (fun q => a q.1), fun a => ⟨fun b => h174 w1 (fun q => ?_), fun b => ⟨fun c => h174 w1 (fun q => q.2.2 c), fun c => ?_⟩⟩⟩
    · rw [Int32.le_iff_toInt_le] at b
      have := q.2.1
      omega
    have yes : opn (s.1 9) (s.1 10) (s.1 11) p := by
      rw [Int32.le_iff_toInt_le] at b
      exact Or.inr (Or.inl ⟨a, by omega, c⟩)
    intro s27 e27
    have d27 := op yes s27 e27
    rw [a] at d27
    have f27 : s27.2.1 13 = f := by rw [e27]; exact hf
    have l27 : (s27.1 14).toInt = (n : Int) := by rw [e27]; exact hn
    have q27 : s27.1 10 = s.1 10 := by rw [e27]; rfl
    rw [q27]
    obtain ⟨i5, p5, a5⟩ := st1 s27 e27
    refine q_told (g := fun r => (82, 1, s.1 9, s.1 10, s.1 11, s.1 12, r)) i5.2.2.1 l27 i5.2.2.2.2 f27 d27 t82 (fun c v1 v2 => ?_) (fun c v => ?_) (fun r29 s28 t28 b29 d28 => ?_)
    · have w : inO (c - 48) 4 ∧ s.1 10 &&& ((1 : Int32) <<< ((c - 48) &&& 31)) = 0 := has_row hs.2.1 v1 v2
      simp only [stp, h82a, h82b, h82c, ↓reduceIte, if_pos w]
    · have w : ¬ (inO (c - 48) 4 ∧ s.1 10 &&& ((1 : Int32) <<< ((c - 48) &&& 31)) = 0) := fun q => v (row_has hs.2.1 q.1 q.2)
      simp only [stp, h82a, h82b, h82c, ↓reduceIte, if_neg w]
    have i28 := Tl_i t28 i5
    have p28 := Rp_t p5 (Tl_R t28)
    rw [← q27] at b29
    obtain ⟨k9, hk9, hk4⟩ := told_row i5.2.1 b29
    have f28 : s28.2.1 13 = f := (p28.2.2 13 (by decide) (by decide) (by decide)).trans hf
    have l28 : (s28.1 14).toInt = (n : Int) := by
      rw [p28.2.1 14 (by decide) (by decide) (by decide) (by decide) (by decide) (by decide)]
      exact hn
    refine q_told (g := fun _ => (68, 1, s.1 9, s.1 10 ||| ((1 : Int32) <<< (r29 &&& 31)), s.1 11, s.1 12, r29)) i28.2.2.1 l28 i28.2.2.2.2 f28 d28 t82 (fun c v1 v2 => ?_) (fun c v => ?_) (fun r31 s30 t30 b31 d30 => ?_)
    · have w : inO (c - 48) (s.1 9) := has_own hW (by omega) v1 (by rw [← e2]; exact v2)
      simp only [stp, h82a, h82b, h82c, h10, ↓reduceIte, if_pos w]
    · have w : ¬ inO (c - 48) (s.1 9) := fun q => v (by rw [e2]; exact own_has hW (by omega) q)
      simp only [stp, h82a, h82b, h82c, h10, ↓reduceIte, if_neg w]
    have i30 := Tl_i t30 i28
    have p30 := Rp_t p28 (Tl_R t30)
    rw [e2] at b31
    have r31c := told_own hW (by omega) b31
    have go : ∀ v, Ow v → B_X7_readPart_145 r29 v r29 s30 Q := by
      intro v hv
      unfold B_X7_readPart_145
      refine ⟨ti_in hk9 hk4, ?_⟩
      intro s22 e22
      rw [ti_cl hk9] at e22
      have c16 : s22.1 16 = s30.1 16 := by rw [e22]; rfl
      have f167 : ∀ t : Int32, (t = 0 ∨ t = ((1 : Int32) <<< (r29 &&& 31))) → (s30.1 16 = -9 → t = ((1 : Int32) <<< (r29 &&& 31))) → B_X7_readPart_167 t (s22.1 10) s22 Q := by
        intro t ht htt
        unfold B_X7_readPart_167
        intro s20 e20
        have gk : ∀ k, ¬ k = 10 → s20.1 k = s30.1 k := by
          intro k k1
          rw [e20, e22]
          exact if_neg k1
        have gr : s20.2.1 = (sA s30 7 k9 v).2.1 := by
          rw [e20, e22]
          rfl
        have gl : s20.2.2 = s30.2.2 := by
          rw [e20, e22]
          rfl
        have g10 : 0 ≤ (s20.1 10).toInt ∧ (s20.1 10).toInt ≤ 15 := by
          have e : s20.1 10 = s30.1 10 ||| t := by
            rw [e20, e22]
            rfl
          rw [e]
          rcases ht with e3 | e3
          · rw [e3, Int32.or_zero]
            exact i30.2.1
          · obtain ⟨w, hw⟩ := nat_of i30.2.1.1
            have hw2 := i30.2.1.2
            rw [e3, ti_of hw, ti_of hk9]
            have := or_bits w (by omega) k9 hk4
            exact ⟨this.2, this.1⟩
        refine h s20 ⟨⟨⟨by rw [gk 9 (by decide)]; exact i30.1.1, by rw [gk 11 (by decide)]; exact i30.1.2.1, fun k hk => ?_, ?_⟩, g10, by rw [gk 15 (by decide)]; exact i30.2.2.1, by rw [gk 14 (by decide)]; exact i30.2.2.2⟩, Rp_t p30 ⟨gl, fun k _ k2 _ _ _ _ => gk k k2, fun k k1 k2 k3 => by rw [gr, sA_ne (by omega)]⟩, Or.inr ?_⟩ ⟨1, r29, ?_⟩
        · rw [gr, sA_get]
          by_cases e : k = k9
          · rw [if_pos e]
            exact hv
          · rw [if_neg e]
            exact i30.1.2.2.1 k hk
        · rw [gr, sA_ne (by decide)]
          exact i30.1.2.2.2
        · rw [gk 15 (by decide)]
          have q1 := t28.2.2.1
          have q2 := t30.2.2.1
          omega
        · have y9 : s30.1 9 = s.1 9 := by rw [t30.2.1 9 (by decide) (by decide), t28.2.1 9 (by decide) (by decide), e27]; rfl
          have y10 : s30.1 10 = s.1 10 := by rw [t30.2.1 10 (by decide) (by decide), t28.2.1 10 (by decide) (by decide), e27]; rfl
          have y11 : s30.1 11 = s.1 11 := by rw [t30.2.1 11 (by decide) (by decide), t28.2.1 11 (by decide) (by decide), e27]; rfl
          have y12 : s30.1 12 = s.1 12 := by rw [t30.2.1 12 (by decide) (by decide), t28.2.1 12 (by decide) (by decide), e27]; rfl
          have d20 := Dx_same (t := s20) d30 (gk 15 (by decide)) (gk 16 (by decide))
          by_cases w : s30.1 16 = -9
          · have x10 : s20.1 10 = s.1 10 ||| ((1 : Int32) <<< (r29 &&& 31)) := by
              rw [e20, sI_eq, e22, ← y10, htt w]; rfl
            rw [gk 9 (by decide), gk 11 (by decide), gk 12 (by decide), x10, y9, y11, y12]
            exact d20
          · exact Dx_any (by rw [gk 16 (by decide)]; exact w) d20
      rw [c16]
      exact ⟨fun w => f167 _ (Or.inl rfl) (fun q => absurd q w), fun _ => f167 _ (Or.inr rfl) (fun _ => rfl)⟩
    refine ⟨fun _ => ⟨ti_in hk9 hk4, go _ ?_⟩, fun _ => go _ (Or.inr r31c)⟩
    rw [ti_cl hk9]
    exact i30.1.2.2.1 k9 hk4
  refine ⟨fun a => h63 (fun q => a q.1), fun a => ⟨fun b => h63 (fun q => ?_), fun c4 => ?_⟩⟩
  · rw [Int32.le_iff_toInt_le] at b
    have := q.2
    omega
  have hW3 : W < 4 := by rw [ti_ge (m := 4) hW rfl] at c4; omega
  have yes : opn (s.1 9) (s.1 10) (s.1 11) p := Or.inl ⟨a, by omega⟩
  intro s37 e37
  have d37 := op yes s37 e37
  rw [a] at d37
  have f37 : s37.2.1 13 = f := by rw [e37]; exact hf
  have l37 : (s37.1 14).toInt = (n : Int) := by rw [e37]; exact hn
  obtain ⟨i5, p5, a5⟩ := st1 s37 e37
  have hW37 : (s37.1 9).toInt = (W : Int) := by rw [e37]; exact hW
  refine q_told (g := fun _ => (68, 0, s.1 9 + 1, s.1 10, s.1 11, s.1 12, fi)) i5.2.2.1 l37 i5.2.2.2.2 f37 d37 t79 (fun c v1 v2 => ?_) (fun c v => ?_) (fun r39 s38 t38 _ d38 => ⟨ti_in hW37 hW3, ?_⟩)
  · have w : inO (c - 48) 4 := has_15 v1 v2
    simp only [stp, h79a, h79b, ↓reduceIte, if_pos w]
  · have w : ¬ inO (c - 48) 4 := fun q => v (n15_has q)
    simp only [stp, h79a, h79b, ↓reduceIte, if_neg w]
  have i38 := Tl_i t38 i5
  intro s41 e41 s42 e42
  have hW38 : (s38.1 9).toInt = (W : Int) := by rw [t38.2.1 9 (by decide) (by decide)]; exact hW37
  have g9 : (s42.1 9).toInt = ((W + 1 : Nat) : Int) := by
    rw [e42, e41]
    exact ti_add hW38 (by omega)
  have gk : ∀ k, ¬ k = 9 → s42.1 k = s38.1 k := by
    intro k k1
    rw [e42, e41]
    exact if_neg k1
  have gr : ∀ k, ¬ k = 6 → s42.2.1 k = s38.2.1 k := by
    intro k k1
    rw [e42, e41]
    show (sA s38 6 _ _).2.1 k = _
    rw [sA_ne k1]
  have gl : s42.2.2 = s38.2.2 := by
    rw [e42, e41]
    rfl
  refine h s42 ⟨⟨⟨by omega, by rw [gk 11 (by decide)]; exact i38.1.2.1, by rw [gr 7 (by decide)]; exact i38.1.2.2.1, by rw [gr 8 (by decide)]; exact i38.1.2.2.2⟩, by rw [gk 10 (by decide)]; exact i38.2.1, by rw [gk 15 (by decide)]; exact i38.2.2.1, by rw [gk 14 (by decide)]; exact i38.2.2.2⟩, Rp_t (Rp_t p5 (Tl_R t38)) ⟨gl, fun k k1 _ _ _ _ _ => gk k k1, fun k k1 _ _ => gr k k1⟩, Or.inr ?_⟩ ⟨0, fi, ?_⟩
  · rw [gk 15 (by decide)]
    have q1 := t38.2.2.1
    omega
  · have y9 : s38.1 9 = s.1 9 := by rw [t38.2.1 9 (by decide) (by decide), e37]; rfl
    have y10 : s38.1 10 = s.1 10 := by rw [t38.2.1 10 (by decide) (by decide), e37]; rfl
    have y11 : s38.1 11 = s.1 11 := by rw [t38.2.1 11 (by decide) (by decide), e37]; rfl
    have y12 : s38.1 12 = s.1 12 := by rw [t38.2.1 12 (by decide) (by decide), e37]; rfl
    have x9 : s42.1 9 = s.1 9 + 1 := by rw [e42, sI_eq, e41, ← y9]; rfl
    rw [x9, gk 10 (by decide), gk 11 (by decide), gk 12 (by decide), y10, y11, y12]
    exact Dx_same d38 (gk 15 (by decide)) (gk 16 (by decide))
