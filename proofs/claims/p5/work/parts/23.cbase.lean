
theorem va_newI {p : Program} {l : Launch} {e : Env} {R : Room} {s : State} {m : MethodId} {args : Array Value} {below : List Frame} {meth : Method} {c : Code} {H : Heap} {locs : List Loc} {cells slots : Nat} {Q : State → Prop} {cc : ByteArray} {pc : Nat} {ls : Array Slot} {rest : List Value} {D : va_G} {cI cZ cW : ClassId} {A : Nat → Prop} {ws : va_W} {H0 : Heap}
    (hexec : p.tables.exec = Jvm.exec) (hb : c.code = cc) (harr : (Cond.arrayClass .int).before args s = true) (hK : va_K D classes (tyl cI cZ cW) s) (hP : va_P D classes ws H) (hD : va_D A ws) (hS : va_S A H0 H locs) (hA : ∀ q, H0.size ≤ q → A q)
    {n : Int32} {N' : Nat} (hn : ¬ n < 0) (hN : n.toNatClampNeg = N') (hbytes : N' * componentBytes .int ≤ 536870912) (hcells : cells + 1 ≤ R.cells) (hslots : slots + N' ≤ R.slots) (hdg : decode cc pc = .ok (.newarray .int, 2))
    (kk : ∀ (q : Nat) (H1 : Heap), va_P D classes (ws ++ [(q, .inl (cI, N', .inl (fun _ => 0)))]) H1 → va_D A (ws ++ [(q, .inl (cI, N', .inl (fun _ => 0)))]) → va_S A H0 H1 locs → W p l e R s m args below meth c H1 locs (cells + 1) (slots + N') Q (F0 m (pc + 2) ls (.ref q :: rest))) : W p l e R s m args below meth c H locs cells slots Q (F0 m pc ls (.int n :: rest)) := by
  refine va_newa (atype := .int) (ty := .int) (a0 := (N', .inl (fun _ => 0))) hexec hb harr rfl hK hP hD hS hA (fun cA => vp_cell_i cA N' _) hn hN hbytes hcells hslots hdg (fun q cA H1 hK1 hP1 hD1 hS1 => ?_)
  have e1 := (hK1.2 3 (cA, .int) rfl).2
  have e2 := (hK1.2 0 (cI, .int) rfl).2
  have e3 : cA = cI := Option.some.inj (e1.symm.trans e2)
  subst e3
  exact kk q H1 hP1 hD1 hS1
theorem va_newZ {p : Program} {l : Launch} {e : Env} {R : Room} {s : State} {m : MethodId} {args : Array Value} {below : List Frame} {meth : Method} {c : Code} {H : Heap} {locs : List Loc} {cells slots : Nat} {Q : State → Prop} {cc : ByteArray} {pc : Nat} {ls : Array Slot} {rest : List Value} {D : va_G} {cI cZ cW : ClassId} {A : Nat → Prop} {ws : va_W} {H0 : Heap}
    (hexec : p.tables.exec = Jvm.exec) (hb : c.code = cc) (harr : (Cond.arrayClass .boolean).before args s = true) (hK : va_K D classes (tyl cI cZ cW) s) (hP : va_P D classes ws H) (hD : va_D A ws) (hS : va_S A H0 H locs) (hA : ∀ q, H0.size ≤ q → A q)
    {n : Int32} {N' : Nat} (hn : ¬ n < 0) (hN : n.toNatClampNeg = N') (hbytes : N' * componentBytes .boolean ≤ 536870912) (hcells : cells + 1 ≤ R.cells) (hslots : slots + N' ≤ R.slots) (hdg : decode cc pc = .ok (.newarray .boolean, 2))
    (kk : ∀ (q : Nat) (H1 : Heap), va_P D classes (ws ++ [(q, .inl (cZ, N', .inl (fun _ => 0)))]) H1 → va_D A (ws ++ [(q, .inl (cZ, N', .inl (fun _ => 0)))]) → va_S A H0 H1 locs → W p l e R s m args below meth c H1 locs (cells + 1) (slots + N') Q (F0 m (pc + 2) ls (.ref q :: rest))) : W p l e R s m args below meth c H locs cells slots Q (F0 m pc ls (.int n :: rest)) := by
  refine va_newa (atype := .boolean) (ty := .boolean) (a0 := (N', .inl (fun _ => 0))) hexec hb harr rfl hK hP hD hS hA (fun cA => vp_cell_i cA N' _) hn hN hbytes hcells hslots hdg (fun q cA H1 hK1 hP1 hD1 hS1 => ?_)
  have e1 := (hK1.2 3 (cA, .boolean) rfl).2
  have e2 := (hK1.2 1 (cZ, .boolean) rfl).2
  have e3 : cA = cZ := Option.some.inj (e1.symm.trans e2)
  subst e3
  exact kk q H1 hP1 hD1 hS1
theorem va_newW {p : Program} {l : Launch} {e : Env} {R : Room} {s : State} {m : MethodId} {args : Array Value} {below : List Frame} {meth : Method} {c : Code} {H : Heap} {locs : List Loc} {cells slots : Nat} {Q : State → Prop} {cc : ByteArray} {pc : Nat} {ls : Array Slot} {rest : List Value} {D : va_G} {cI cZ cW : ClassId} {A : Nat → Prop} {ws : va_W} {H0 : Heap}
    (hexec : p.tables.exec = Jvm.exec) (hb : c.code = cc) {own : String} {index : Nat} (hown : s.vm.findClass own = some m.cls) (hclink : (Cond.classLink own index "LetHoles$Wheel").before args s = true) (hover : va_AO "LetHoles$Wheel" s) (hK : va_K D classes (tyl cI cZ cW) s) (hP : va_P D classes ws H) (hD : va_D A ws) (hS : va_S A H0 H locs) (hA : ∀ q, H0.size ≤ q → A q)
    {n : Int32} {N' : Nat} (hn : ¬ n < 0) (hN : n.toNatClampNeg = N') (hbytes : N' * 4 ≤ 536870912) (hcells : cells + 1 ≤ R.cells) (hslots : slots + N' ≤ R.slots) (hdg : decode cc pc = .ok (.anewarray index, 3))
    (kk : ∀ (q : Nat) (H1 : Heap), va_P D classes (ws ++ [(q, .inl (cW, N', .inr (.inr (.inr (.inr (fun _ => none))))))]) H1 → va_D A (ws ++ [(q, .inl (cW, N', .inr (.inr (.inr (.inr (fun _ => none))))))]) → va_S A H0 H1 locs → W p l e R s m args below meth c H1 locs (cells + 1) (slots + N') Q (F0 m (pc + 3) ls (.ref q :: rest))) : W p l e R s m args below meth c H locs cells slots Q (F0 m pc ls (.int n :: rest)) := by
  refine va_newq hexec hb hown hclink hover hK hP hD hS hA hn hN hbytes hcells hslots hdg (fun q cA H1 hK1 hP1 hD1 hS1 => ?_)
  obtain ⟨_, _, _, _, _, e1⟩ := (hK1.2 3 (cA, .object "LetHoles$Wheel") rfl).2
  obtain ⟨_, _, _, _, _, e2⟩ := (hK1.2 2 (cW, .object "LetHoles$Wheel") rfl).2
  have e3 : cA = cW := Option.some.inj (e1.symm.trans e2)
  subst e3
  exact kk q H1 hP1 hD1 hS1
theorem cell_i (cA : ClassId) {n : Nat} {f g : Nat → Int32} (h : ∀ k, k < n → f k = g k) : vp_cell cA (n, .inl f) = vp_cell cA (n, .inl g) := by
  rw [vp_cell_i, vp_cell_i]
  unfold arrV
  have e : (fun j : Fin n => Value.int (f j.val)) = (fun j : Fin n => Value.int (g j.val)) := funext fun j => by rw [h j.val j.isLt]
  rw [e]
theorem cell_q (cA : ClassId) {n : Nat} {f g : Nat → Option Nat} (h : ∀ k, k < n → f k = g k) : vp_cell cA (n, .inr (.inr (.inr (.inr f)))) = vp_cell cA (n, .inr (.inr (.inr (.inr g)))) := by
  rw [vp_cell_q, vp_cell_q]
  unfold arrV
  have e : (fun j : Fin n => va_rf (f j.val)) = (fun j : Fin n => va_rf (g j.val)) := funext fun j => by rw [h j.val j.isLt]
  rw [e]
theorem P_cell {D : va_G} {cl : List vw_C} {pre post : va_W} {a : Nat} {cA : ClassId} {x y : vp_A} {H : Heap} (h : vp_cell cA x = vp_cell cA y) (hP : va_P D cl (pre ++ (a, .inl (cA, x)) :: post) H) : va_P D cl (pre ++ (a, .inl (cA, y)) :: post) H := by
  intro k q hq
  rcases Nat.lt_trichotomy k pre.length with hk | hk | hk
  · rw [List.getElem?_append_left hk] at hq
    exact hP k q (by rw [List.getElem?_append_left hk]; exact hq)
  · have h0 := hP k (a, .inl (cA, x)) (by rw [List.getElem?_append_right (by omega), hk, Nat.sub_self]; rfl)
    rw [List.getElem?_append_right (by omega), hk, Nat.sub_self] at hq
    cases hq
    show H[a]? = some (vp_cell cA y)
    rw [← h]
    exact h0
  · rw [List.getElem?_append_right (by omega)] at hq
    refine hP k q ?_
    rw [List.getElem?_append_right (by omega)]
    obtain ⟨j, hj⟩ : ∃ j, k - pre.length = j + 1 := ⟨k - pre.length - 1, by omega⟩
    rw [hj] at hq ⊢
    exact hq
theorem cjN {A0 : Nat → Prop} {D : va_G} {cl : List vw_C} {pre wc w1 : va_W} {H0 H H1 : Heap} {locs : List Loc} (hP : va_P D cl (pre ++ wc) H) (hD : va_D A0 (pre ++ wc)) (hS : va_S A0 H0 H locs) (hA : ∀ q, H0.size ≤ q → A0 q)
    (hk : ∀ q : Nat, q < H.size → ¬ va_A wc H.size q → H1[q]? = H[q]?) (hB : va_P D cl w1 H1) (hDB : va_D (va_A wc H.size) w1) : va_P D cl (pre ++ w1) H1 ∧ va_D A0 (pre ++ w1) := by
  have ap : ∀ (i : Nat) (q : Nat × va_E), pre[i]? = some q → ¬ va_A wc H.size q.1 := by
    intro i q hq ha
    rcases ha with ⟨k, e, hw⟩ | h
    · exact D_apart hD hq hw rfl
    · exact absurd (P_pre hP i q hq).lt (by omega)
  refine ⟨va_P.app (fun i q hq => (P_pre hP i q hq).kept (hk q.1 (P_pre hP i q hq).lt (ap i q hq))) hB, va_D.app (D_pre hD) (hDB.weaken (fun k q _ h => va_freeX (D_suf hD) hS hA q.1 h)) (fun i j p q hp hq he => ap i p hp (by rw [he]; exact hDB.2 j q hq))⟩
def wfill : FA := fun _ => -9
def w0 : CS := (fun _ => 0, fun k => if k = 1 ∨ k = 2 then wfill else fun _ => 0, 0)
def d0 : CS := (fun _ => 0, fun k => if k = 3 ∨ k = 5 then wfill else fun _ => 0, 0)
def t0 : CS := (fun _ => 0, fun _ _ => 0, 0)
def now0 : FA := fun k => if k < 20 then 7 else 0
def paste0 : FA := fun k => if k < 4 then -9 else 0
def mi : CS := (fun _ => 0, fun _ _ => 0, 0)
def m0 : CS := (fun _ => 0, fun k => if k = 3 then paste0 else if k = 5 then now0 else fun _ => 0, 0)
theorem fill_spec (v : Int32) (n : Nat) (f : FA) (Q : FA → Prop) (hn : n < 2 ^ 31) (h : ∀ g : FA, (∀ i, i < n → g i = v) → Q g) : wp_J7_fill_53178 v n f Q := by
  unfold wp_J7_fill_53178
  intro x3 hx3
  subst hx3
  unfold B_J7_fill_53178_5
  refine LOOP_m (fun z => z.1 = v ∧ z.2.2.1 = nI n ∧ ∃ i, i ≤ n ∧ z.2.1 = nI i ∧ ∀ j, j < i → z.2.2.2 j = v) (fun z => n - z.2.1.toNatClampNeg) _ ⟨rfl, rfl, 0, Nat.zero_le _, nI_0.symm, fun j hj => absurd hj (Nat.not_lt_zero j)⟩ ?_
  rintro ⟨x1, x2, x3, s0⟩ G ⟨h1, h2, i, hi, h3, hs⟩ hG
  dsimp only at h1 h2 h3 hs hG ⊢
  subst h1 h2 h3
  unfold LB_J7_fill_53178_5
  refine br_c (fun c => h _ ?_) (fun c => ?_)
  · have hle := (nI_leI hn (by omega)).mp c
    intro j hj
    exact hs j (by omega)
  · have hlt : i < n := by
      rcases Nat.lt_or_ge i n with q | q
      · exact q
      · exact absurd (nI_le q (by omega)) c
    refine ⟨vp_in_nI hlt hn, ?_⟩
    intro s1 hs1 x2 hx2
    subst hs1 hx2
    refine hG _ ⟨rfl, rfl, i + 1, hlt, nI_1 i, ?_⟩ ?_
    · intro j hj
      rw [nI_clamp (by omega)]
      show upd s0 i x1 j = x1
      by_cases hji : j = i
      · subst hji; exact pk_us
      · rw [pk_un hji]; exact hs j (by omega)
    · show n - (nI i + 1).toNatClampNeg < n - (nI i).toNatClampNeg
      rw [nI_1, nI_clamp (by omega), nI_clamp (by omega)]
      omega

def a0 (Y : Nat → Nat → Nat) : AS := ((fun _ => 0, fun _ _ => 0, 0), fun i => some (Y i 0), fun _ => w0)
def S0 : Nat → CS := fun k => if k = 0 then (fun _ => 0, fun _ _ => 0, 0) else if k < 4 then d0 else if k = 6 then t0 else w0
def PWO (D : va_G) (cI cZ cW : ClassId) (As : List Value) (ws : va_W) (sz : Nat) : Array Value → State → Prop := va_Pc As (fun U => U.heap.size = sz ∧ va_P D classes ws U.heap ∧ va_K D classes (tyl cI cZ cW) U ∧ va_D (fun _ => True) ws ∧ va_AO "LetHoles$Wheel" U)
theorem PWO_blind {D : va_G} {cI cZ cW : ClassId} {As : List Value} {ws : va_W} {sz : Nat} : FrameBlind (PWO D cI cZ cW As ws sz) := fun a U g mk q => ⟨q.1, q.2.1, q.2.2.1, va_K.moved (u := U) (U := U.calling g mk a) (Vm.Alike.refl U.vm) q.2.2.2.1, q.2.2.2.2.1, va_AO.moved (u := U) (U := U.calling g mk a) (Vm.Alike.refl U.vm) q.2.2.2.2.2⟩
theorem PWO_mk {D : va_G} {cI cZ cW : ClassId} {As : List Value} {ws : va_W} {A : Nat → Prop} {s U : State} {H : Heap} (hP : va_P D classes ws H) (hD : va_D A ws) (hK : va_K D classes (tyl cI cZ cW) s) (ho : va_AO "LetHoles$Wheel" s) (hU : U.heap = H) (hW : s.WarmedH U.vm) : PWO D cI cZ cW As ws H.size As.toArray U := ⟨rfl, by rw [hU], by rw [hU]; exact hP, va_K.moved hW.alike hK, hD.weaken (fun _ _ _ _ => trivial), va_AO.moved hW.alike ho⟩
theorem cjM {A0 : Nat → Prop} {D : va_G} {cl : List vw_C} {pre wc w1 : va_W} {H H1 : Heap} (hP : va_P D cl (pre ++ wc) H) (hD : va_D A0 (pre ++ wc)) (hF : ∀ q, va_A wc H.size q → A0 q)
    (hk : ∀ q : Nat, q < H.size → ¬ va_A wc H.size q → H1[q]? = H[q]?) (hB : va_P D cl w1 H1) (hDB : va_D (va_A wc H.size) w1) : va_P D cl (pre ++ w1) H1 ∧ va_D A0 (pre ++ w1) := by
  have ap : ∀ (i : Nat) (q : Nat × va_E), pre[i]? = some q → ¬ va_A wc H.size q.1 := by
    intro i q hq ha
    rcases ha with ⟨k, e, hw⟩ | h
    · exact D_apart hD hq hw rfl
    · exact absurd (P_pre hP i q hq).lt (by omega)
  exact ⟨va_P.app (fun i q hq => (P_pre hP i q hq).kept (hk q.1 (P_pre hP i q hq).lt (ap i q hq))) hB, va_D.app (D_pre hD) (hDB.weaken (fun k q _ h => hF q.1 h)) (fun i j p q hp hq he => ap i p hp (by rw [he]; exact hDB.2 j q hq))⟩
theorem D_perm {A : Nat → Prop} {ws ws' : va_W} (hD : va_D A ws) (is : List Nat) (hn : va_nd is = true) (hs : is.map (fun i => (ws[i]?).map Prod.fst) = ws'.map (fun q => some q.1)) : va_D A ws' := by
  have key : ∀ (k : Nat) (q : Nat × va_E), ws'[k]? = some q → ∃ (i : Nat) (q0 : Nat × va_E), is[k]? = some i ∧ ws[i]? = some q0 ∧ q0.1 = q.1 := by
    intro k q hq
    have h1 : (is.map (fun i => (ws[i]?).map Prod.fst))[k]? = some (some q.1) := by rw [hs, List.getElem?_map, hq]; rfl
    rw [List.getElem?_map] at h1
    cases hi : is[k]? with
    | none => rw [hi] at h1; cases h1
    | some i =>
      rw [hi] at h1
      have h2 : (ws[i]?).map Prod.fst = some q.1 := Option.some.inj h1
      cases hw : ws[i]? with
      | none => rw [hw] at h2; cases h2
      | some q0 => rw [hw] at h2; exact ⟨i, q0, rfl, hw, Option.some.inj h2⟩
  have ws2 : is.map (fun i => ws[i]?) = (is.filterMap (fun i => ws[i]?)).map some := by
    have : ∀ l : List Nat, (∀ i ∈ l, ∃ q, ws[i]? = some q) → l.map (fun i => ws[i]?) = (l.filterMap (fun i => ws[i]?)).map some := by
      intro l
      induction l with
      | nil => intro _; rfl
      | cons x l ih =>
        intro h
        obtain ⟨q, hq⟩ := h x List.mem_cons_self
        rw [List.map_cons, List.filterMap_cons, hq, ih (fun i hi => h i (List.mem_cons_of_mem _ hi))]
        rfl
    apply this
    intro i hi
    obtain ⟨k, hk⟩ := List.getElem?_of_mem hi
    have h1 : (is.map (fun i => (ws[i]?).map Prod.fst))[k]? = some ((ws[i]?).map Prod.fst) := by rw [List.getElem?_map, hk]; rfl
    rw [hs, List.getElem?_map] at h1
    cases hw : ws'[k]? with
    | none => rw [hw] at h1; cases h1
    | some q0 =>
      rw [hw] at h1
      cases hi2 : ws[i]? with
      | none => rw [hi2] at h1; cases h1
      | some q1 => exact ⟨q1, rfl⟩
  have hsub := hD.sub is hn ws2
  have hsame : ws'.map Prod.fst = (is.filterMap (fun i => ws[i]?)).map Prod.fst := by
    have e1 : (ws'.map Prod.fst).map some = ((is.filterMap (fun i => ws[i]?)).map Prod.fst).map some := by
      rw [List.map_map, List.map_map]
      have e2 : ws'.map (some ∘ Prod.fst) = ws'.map (fun q => some q.1) := rfl
      rw [e2, ← hs]
      have e3 : (is.filterMap (fun i => ws[i]?)).map (some ∘ Prod.fst) = ((is.filterMap (fun i => ws[i]?)).map some).map (Option.map Prod.fst) := by rw [List.map_map]; rfl
      rw [e3, ← ws2, List.map_map]
      rfl
    exact (List.map_inj_right (fun a b h => Option.some.inj h)).mp e1
  exact hsub.same hsame
