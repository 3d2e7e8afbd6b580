
/-! my base: one word list for all methods, worlds, the frame of a call, loops -/
theorem mj_1 {w : Cond} (h : w ∈ tables_1_1) : w ∈ lw_tbl := List.mem_append_right _ (List.mem_append_left _ h)
theorem mj_2 {w : Cond} (h : w ∈ tables_1_2) : w ∈ lw_tbl := List.mem_append_right _ (List.mem_append_right _ (List.mem_append_left _ h))
theorem mj_3 {w : Cond} (h : w ∈ tables_1_3) : w ∈ lw_tbl := List.mem_append_right _ (List.mem_append_right _ (List.mem_append_right _ (List.mem_append_left _ h)))
theorem mj_4 {w : Cond} (h : w ∈ tables_1_4) : w ∈ lw_tbl := List.mem_append_right _ (List.mem_append_right _ (List.mem_append_right _ (List.mem_append_right _ (List.mem_append_left _ h))))
theorem mj_5 {w : Cond} (h : w ∈ tables_1_5) : w ∈ lw_tbl := List.mem_append_right _ (List.mem_append_right _ (List.mem_append_right _ (List.mem_append_right _ (List.mem_append_right _ (h)))))
def lw_g : List Cond := lw_tbl.filter goodWord
def wsA (y : MethodName) (c : ByteArray) (n : Nat) (r : Option FieldType) : List Cond := .code y c n r :: lw_g
theorem gT0 {y : MethodName} {c : ByteArray} {n : Nat} {r : Option FieldType} (h : Cond.code y c n r ∈ lw_g) : GoodIn lw_g (wsA y c n r) := by
  intro w hw
  have hm : w ∈ lw_g := by
    rcases List.mem_cons.mp hw with e | e
    · rw [e]; exact h
    · exact e
  exact ⟨hm, good_of_word (List.mem_filter.mp hm).2⟩
theorem gT {y : MethodName} {c : ByteArray} {n : Nat} {r : Option FieldType} (h : Cond.code y c n r ∈ lw_g) : GoodIn lw_tbl (wsA y c n r) := fun w hw => ⟨(List.mem_filter.mp (gT0 h w hw).1).1, (gT0 h w hw).2⟩
theorem gA {y0 y : MethodName} {c0 c : ByteArray} {n0 n : Nat} {r0 r : Option FieldType} (h : Cond.code y c n r ∈ lw_g) : GoodIn (wsA y0 c0 n0 r0) (wsA y c n r) := fun w hw => ⟨List.mem_cons_of_mem _ (gT0 h w hw).1, (gT0 h w hw).2⟩
abbrev classes : List vw_C := [(RX0, TX0, 2), (RX1, TX1, 14), (RX4, TX4, 4), (RX5, TX5, 6), (RX6, TX6, 12), (RX7, TX7, 28)]
def tyl (cI cZ cW : ClassId) : List (ClassId × FieldType) := [(cI, .int), (cZ, .boolean), (cW, .object "LetHoles$Wheel")]
abbrev CS : Type := (Nat → Int32) × (Nat → Nat → Int32) × Int64
abbrev FA : Type := Nat → Int32
def sI (c : CS) (k : Nat) (v : Int32) : CS := (upd c.1 k v, c.2)
def sF (c : CS) (k : Nat) (f : FA) : CS := (c.1, va_up c.2.1 k f, c.2.2)
def sA (c : CS) (k i : Nat) (v : Int32) : CS := sF c k (upd (c.2.1 k) i v)
def sL (c : CS) (v : Int64) : CS := (c.1, c.2.1, v)
def wI (cI : ClassId) (a n : Nat) (f : FA) : va_W := [(a, .inl (cI, n, .inl f))]
def wW (cI cZ : ClassId) (q : Nat → Nat) (w : CS) : va_W := [(q 0, .inr (3, [.ref (q 1), .ref (q 2), .ref (q 3), .ref (q 4), .int (w.1 4), .int (w.1 5)])), (q 1, .inl (cI, 5, .inl (w.2.1 0))), (q 2, .inl (cI, 5, .inl (w.2.1 1))), (q 3, .inl (cI, 5, .inl (w.2.1 2))), (q 4, .inl (cI, 4, .inl (w.2.1 3)))]
def wD (cI cZ : ClassId) (q : Nat → Nat) (w : CS) : va_W := [(q 0, .inr (1, [.int (w.1 0), .int (w.1 1), .ref (q 1), .ref (q 2), .ref (q 3), .ref (q 4), .ref (q 5), .int (w.1 7), .int (w.1 8), .int (w.1 9), .int (w.1 10), .int (w.1 11), .int (w.1 12), .int (w.1 13)])), (q 1, .inl (cI, 4, .inl (w.2.1 2))), (q 2, .inl (cI, 4, .inl (w.2.1 3))), (q 3, .inl (cI, 5, .inl (w.2.1 4))), (q 4, .inl (cI, 5, .inl (w.2.1 5))), (q 5, .inl (cI, 5, .inl (w.2.1 6)))]
def wT (cI cZ : ClassId) (q : Nat → Nat) (w : CS) : va_W := [(q 0, .inr (2, [.ref (q 1), .ref (q 2), .ref (q 3), .int (w.1 3)])), (q 1, .inl (cI, 6, .inl (w.2.1 0))), (q 2, .inl (cI, 6, .inl (w.2.1 1))), (q 3, .inl (cZ, 6, .inl (w.2.1 2)))]
def wM (cI cZ : ClassId) (q : Nat → Nat) (w : CS) : va_W := [(q 0, .inr (5, [.int (w.1 0), .int (w.1 1), .ref (q 1), .ref (q 2), .ref (q 3), .ref (q 4), .ref (q 5), .ref (q 6), .ref (q 7), .int (w.1 9), .int (w.1 10), .int (w.1 11), .int (w.1 12), .ref (q 8), .int (w.1 14), .int (w.1 15), .int (w.1 16), .int (w.1 17), .int (w.1 18), .ref (q 9), .ref (q 10), .int (w.1 21), .ref (q 11), .ref (q 12), .ref (q 13), .long w.2.2, .ref (q 14), .ref (q 15)])), (q 1, .inl (cI, 4, .inl (w.2.1 2))), (q 2, .inl (cI, 4, .inl (w.2.1 3))), (q 3, .inl (cI, 5, .inl (w.2.1 4))), (q 4, .inl (cI, 70, .inl (w.2.1 5))), (q 5, .inl (cI, 4, .inl (w.2.1 6))), (q 6, .inl (cI, 4, .inl (w.2.1 7))), (q 7, .inl (cI, 15, .inl (w.2.1 8))), (q 8, .inl (cI, 48, .inl (w.2.1 13))), (q 9, .inl (cI, 490, .inl (w.2.1 19))), (q 10, .inl (cI, 20, .inl (w.2.1 20))), (q 11, .inl (cI, 6, .inl (w.2.1 22))), (q 12, .inl (cI, 6, .inl (w.2.1 23))), (q 13, .inl (cI, 6, .inl (w.2.1 24))), (q 14, .inl (cZ, 2, .inl (w.2.1 26))), (q 15, .inl (cI, 70, .inl (w.2.1 27)))]
def PR (D : va_G) (cI cZ cW : ClassId) (As : List Value) (ws : va_W) : Array Value → State → Prop := va_Pc As (fun U => va_P D classes ws U.heap ∧ va_K D classes (tyl cI cZ cW) U)
theorem PR_blind {D : va_G} {cI cZ cW : ClassId} {As : List Value} {ws : va_W} : FrameBlind (PR D cI cZ cW As ws) := fun a U g mk q => ⟨q.1, q.2.1, va_K.moved (u := U) (U := U.calling g mk a) (Vm.Alike.refl U.vm) q.2.2⟩
theorem PR_mk {D : va_G} {cI cZ cW : ClassId} {As : List Value} {ws : va_W} {s U : State} {H : Heap} (hP : va_P D classes ws H) (hK : va_K D classes (tyl cI cZ cW) s) (hU : U.heap = H) (hW : s.WarmedH U.vm) : PR D cI cZ cW As ws As.toArray U := ⟨rfl, by rw [hU]; exact hP, va_K.moved hW.alike hK⟩
def PW (D : va_G) (cI cZ cW : ClassId) (As : List Value) (ws : va_W) (sz : Nat) : Array Value → State → Prop := va_Pc As (fun U => U.heap.size = sz ∧ va_P D classes ws U.heap ∧ va_K D classes (tyl cI cZ cW) U ∧ va_D (fun _ => True) ws)
theorem PW_blind {D : va_G} {cI cZ cW : ClassId} {As : List Value} {ws : va_W} {sz : Nat} : FrameBlind (PW D cI cZ cW As ws sz) := fun a U g mk q => ⟨q.1, q.2.1, q.2.2.1, va_K.moved (u := U) (U := U.calling g mk a) (Vm.Alike.refl U.vm) q.2.2.2.1, q.2.2.2.2⟩
theorem PW_mk {D : va_G} {cI cZ cW : ClassId} {As : List Value} {ws : va_W} {A : Nat → Prop} {s U : State} {H : Heap} (hP : va_P D classes ws H) (hD : va_D A ws) (hK : va_K D classes (tyl cI cZ cW) s) (hU : U.heap = H) (hW : s.WarmedH U.vm) : PW D cI cZ cW As ws H.size As.toArray U := ⟨rfl, by rw [hU], by rw [hU]; exact hP, va_K.moved hW.alike hK, hD.weaken (fun _ _ _ _ => trivial)⟩
theorem P_heap {D : va_G} {cl : List vw_C} {ws : va_W} {t : State} {H : Heap} (ht : t.heap = H) (hP : va_P D cl ws H) : va_P D cl ws t.heap := by rw [ht]; exact hP
def LOOP {σ : Type} (body : (σ → Prop) → σ → Prop) (z : σ) : Prop := ∃ I : Nat → σ → Prop, (∃ k, I k z) ∧ ∀ k z, I k z → body (fun z' => ∃ k', k' < k ∧ I k' z') z
theorem LOOP_m {σ : Type} {body : (σ → Prop) → σ → Prop} (I : σ → Prop) (μ : σ → Nat) (z : σ) (h0 : I z) (hs : ∀ (z : σ) (G : σ → Prop), I z → (∀ z', I z' → μ z' < μ z → G z') → body G z) : LOOP body z :=
  ⟨fun k z => I z ∧ μ z = k, ⟨μ z, h0, rfl⟩, fun k z h => hs z _ h.1 (fun z' h1 h2 => ⟨μ z', by omega, h1, rfl⟩)⟩
theorem pf_I : parseFieldDescriptor "I" = some .int := by decide +kernel
theorem pf_J : parseFieldDescriptor "J" = some .long := by decide +kernel
def setM : va_W → List Nat → va_W → va_W
  | ws, i :: is, c :: cs => setM (ws.set i c) is cs
  | ws, _, _ => ws
theorem set_fst (ws : va_W) (i : Nat) (c : Nat × va_E) (h : (ws[i]?).map Prod.fst = some c.1) : (ws.set i c).map Prod.fst = ws.map Prod.fst := by
  apply List.ext_getElem?
  intro n
  rw [List.getElem?_map, List.getElem?_map, List.getElem?_set]
  by_cases hin : i = n
  · subst hin
    cases hq : ws[i]? with
    | none => rw [hq] at h; cases h
    | some q =>
      have hl : i < ws.length := (List.getElem?_eq_some_iff.mp hq).1
      rw [hq] at h
      simp only [hl, if_true, Option.map_some] at h ⊢
      exact h.symm
  · simp [hin]
theorem setM_fst : ∀ (is : List Nat) (w1 ws : va_W), is.map (fun i => (ws[i]?).map Prod.fst) = w1.map (fun c => some c.1) → (setM ws is w1).map Prod.fst = ws.map Prod.fst
  | [], w1, ws, _ => by cases w1 <;> rfl
  | i :: is, [], ws, h => by cases h
  | i :: is, c :: cs, ws, h => by
    simp only [List.map_cons, List.cons.injEq] at h
    have h1 := set_fst ws i c h.1
    have h2 : is.map (fun i => ((ws.set i c)[i]?).map Prod.fst) = is.map (fun i => ((ws.set i c)[i]?).map Prod.fst) := rfl
    have h3 : is.map (fun j => ((ws.set i c)[j]?).map Prod.fst) = cs.map (fun c => some c.1) := by
      rw [← h.2]
      apply List.map_congr_left
      intro j _
      rw [← List.getElem?_map, ← List.getElem?_map, h1]
    exact (setM_fst is cs (ws.set i c) h3).trans h1
theorem setM_at : ∀ (is : List Nat) (w1 ws : va_W) (n : Nat) (q : Nat × va_E), is.length = w1.length → (setM ws is w1)[n]? = some q → q ∈ w1 ∨ (n ∉ is ∧ ws[n]? = some q)
  | [], w1, ws, n, q, _, h => Or.inr ⟨List.not_mem_nil, by cases w1 <;> exact h⟩
  | i :: is, [], ws, n, q, hl, _ => by cases hl
  | i :: is, c :: cs, ws, n, q, hl, h => by
    rcases setM_at is cs (ws.set i c) n q (by simpa using hl) h with h1 | ⟨h1, h2⟩
    · exact Or.inl (List.mem_cons_of_mem _ h1)
    · rw [List.getElem?_set] at h2
      by_cases hin : i = n
      · subst hin
        by_cases hlt : i < ws.length
        · simp only [hlt, if_true, Option.some.injEq] at h2
          exact Or.inl (by rw [h2]; exact List.mem_cons_self)
        · simp [hlt] at h2
      · simp only [hin, if_false] at h2
        refine Or.inr ⟨fun hm => ?_, h2⟩
        rcases List.mem_cons.mp hm with e | e
        · exact hin e.symm
        · exact h1 e
theorem va_D.same {A : Nat → Prop} {ws ws' : va_W} (h : va_D A ws) (he : ws'.map Prod.fst = ws.map Prod.fst) : va_D A ws' := by
  have key : ∀ (k : Nat) (q : Nat × va_E), ws'[k]? = some q → ∃ q0, ws[k]? = some q0 ∧ q0.1 = q.1 := by
    intro k q hq
    have h1 : (ws'.map Prod.fst)[k]? = some q.1 := by rw [List.getElem?_map, hq]; rfl
    rw [he, List.getElem?_map] at h1
    cases hw : ws[k]? with
    | none => rw [hw] at h1; cases h1
    | some q0 => rw [hw] at h1; exact ⟨q0, rfl, Option.some.inj h1⟩
  refine ⟨fun i j p q hp hq e => ?_, fun k q hq => ?_⟩
  · obtain ⟨p0, hp0, ep⟩ := key i p hp
    obtain ⟨q0, hq0, eq⟩ := key j q hq
    exact h.1 i j p0 q0 hp0 hq0 (by rw [ep, eq, e])
  · obtain ⟨q0, hq0, eq⟩ := key k q hq
    rw [← eq]
    exact h.2 k q0 hq0
theorem cj {A0 : Nat → Prop} {D : va_G} {cl : List vw_C} {ws : va_W} {H H1 : Heap} (is : List Nat) (wc w1 : va_W) (hP : va_P D cl ws H) (hD : va_D A0 ws) (hC : is.map (fun i => ws[i]?) = wc.map some) (hA1 : wc.map Prod.fst = w1.map Prod.fst)
    (hk : ∀ q : Nat, q < H.size → ¬ va_A wc H.size q → H1[q]? = H[q]?) (hP1 : va_P D cl w1 H1) : va_P D cl (setM ws is w1) H1 ∧ va_D A0 (setM ws is w1) := by
  have hlen : is.length = w1.length := by
    have e1 := congrArg List.length hC
    have e2 := congrArg List.length hA1
    simp only [List.length_map] at e1 e2
    exact e1.trans e2
  refine ⟨fun n q hq => ?_, hD.same (setM_fst is w1 ws ?_)⟩
  · rcases setM_at is w1 ws n q hlen hq with h1 | ⟨h1, h2⟩
    · obtain ⟨k, hk1⟩ := List.getElem?_of_mem h1
      exact hP1 k q hk1
    · have hat := hP n q h2
      refine hat.kept (hk q.1 hat.lt (fun ha => ?_))
      rcases ha with ⟨k, e, hw⟩ | h
      · have h3 : (is.map (fun i => ws[i]?))[k]? = some (some (q.1, e)) := by rw [hC, List.getElem?_map, hw]; rfl
        rw [List.getElem?_map] at h3
        cases hi : is[k]? with
        | none => rw [hi] at h3; cases h3
        | some i =>
          rw [hi] at h3
          have h4 : ws[i]? = some (q.1, e) := Option.some.inj h3
          have h5 := hD.1 n i q (q.1, e) h2 h4 rfl
          exact h1 (by rw [h5]; exact List.mem_of_getElem? hi)
      · exact absurd hat.lt (by omega)
  · have e1 : is.map (fun i => (ws[i]?).map Prod.fst) = (is.map (fun i => ws[i]?)).map (Option.map Prod.fst) := by rw [List.map_map]; rfl
    rw [e1, hC, List.map_map]
    have e2 : (wc.map (Option.map Prod.fst ∘ some)) = (wc.map Prod.fst).map some := by rw [List.map_map]; rfl
    rw [e2, hA1, List.map_map]
    rfl
theorem inX0 : ∀ w ∈ u_ws RX0 TX0 2, w ∈ lw_g := by decide +kernel
theorem inX1 : ∀ w ∈ u_ws RX1 TX1 14, w ∈ lw_g := by decide +kernel
theorem inX4 : ∀ w ∈ u_ws RX4 TX4 4, w ∈ lw_g := by decide +kernel
theorem inX5 : ∀ w ∈ u_ws RX5 TX5 6, w ∈ lw_g := by decide +kernel
theorem inX6 : ∀ w ∈ u_ws RX6 TX6 12, w ∈ lw_g := by decide +kernel
theorem inX7 : ∀ w ∈ u_ws RX7 TX7 28, w ∈ lw_g := by decide +kernel
