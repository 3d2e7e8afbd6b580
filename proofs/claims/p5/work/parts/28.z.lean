def Eq3 (S : Nat → CS) (m : CS) : Prop := (S 0).1 1 = m.1 14 ∧ (S 6).1 3 = m.1 21 ∧ (S 0).2.2 = m.2.2
theorem Eq3_f {S T : Nat → CS} {m n : CS} (h : Eq3 S m) (hx : XFr S T) (hf : Fr m n) : Eq3 T n := ⟨hx.1.trans (h.1.trans hf.1.symm), hx.2.1.trans (h.2.1.trans hf.2.1.symm), hx.2.2.1.trans (h.2.2.trans hf.2.2.1.symm)⟩
theorem Eq3_m {S : Nat → CS} {m n : CS} (h : Eq3 S m) (hf : Fr m n) : Eq3 S n := Eq3_f h (XFr_r S) hf
def Eq4 (S : Nat → CS) (m : CS) : Prop := Eq3 S m ∧ (S 0).2.1 0 = m.2.1 13
theorem Eq4_f {S T : Nat → CS} {m n : CS} (h : Eq4 S m) (hx : XFr S T) (hf : Fr m n) : Eq4 T n := ⟨Eq3_f h.1 hx hf, hx.2.2.2.trans (h.2.trans hf.2.2.2.symm)⟩
theorem Eq4_m {S : Nat → CS} {m n : CS} (h : Eq4 S m) (hf : Fr m n) : Eq4 S n := Eq4_f h (XFr_r S) hf
theorem Ow0 : Ow 0 := Or.inr (by decide)
theorem Bk0 {f : FA} {o : Nat} (h : ∀ k, k < 30 → f (o + k) = 0) : Bk f o := by
  refine ⟨fun c hc => ?_, fun k hk => ?_⟩
  · rw [h c (by omega)]
    refine Or.inr (Or.inr ⟨0, by omega, rfl, ?_⟩)
    rw [show o + 20 + 0 = o + 20 by omega, h 20 (by omega)]
    decide
  · rw [Nat.add_assoc, h _ (by omega)]
    exact Ow0
theorem Mk_m0 : Mk m0 := by
  refine ⟨(by decide : 0 ≤ (0 : Int32).toInt ∧ (0 : Int32).toInt ≤ 4), (by decide : 0 ≤ (0 : Int32).toInt ∧ (0 : Int32).toInt ≤ 5), fun r hr => ?_, fun L hL => ?_, ⟨(by decide : 0 ≤ (0 : Int32).toInt ∧ (0 : Int32).toInt ≤ 4), (by decide : 0 ≤ (0 : Int32).toInt ∧ (0 : Int32).toInt ≤ 5), fun _ _ => Ow0, fun _ _ => (by decide : (0 ≤ (0 : Int32).toInt ∧ (0 : Int32).toInt < 20) ∧ 0 ≤ (0 : Int32).toInt ∧ (0 : Int32).toInt < 4)⟩, (by decide : 0 ≤ (0 : Int32).toInt ∧ (0 : Int32).toInt ≤ 48), (by decide : 0 ≤ (0 : Int32).toInt ∧ (0 : Int32).toInt ≤ 13), fun _ _ => Bk0 (fun _ _ => rfl), (by decide : 0 ≤ (0 : Int32).toInt ∧ (0 : Int32).toInt ≤ 6), fun _ _ => Bk0 (fun _ _ => rfl)⟩
  · have : ∀ r, r < 4 → paste0 r = -9 := by decide
    exact Or.inl (this r hr)
  · rcases (show L = 0 ∨ L = 1 by omega) with e | e <;> subst e
    · refine ⟨fun c hc => Or.inl ?_, fun k hk => ?_⟩
      · rw [show 35 * 0 + c = c by omega]
        exact m0n c hc
      · have : ∀ k, k < 10 → now0 (35 * 0 + 20 + k) = 0 := by decide
        show Ow (now0 (35 * 0 + 20 + k))
        rw [this k hk]
        exact Ow0
    · have : ∀ k, k < 30 → now0 (35 * 1 + k) = 0 := by decide
      exact Bk0 this
