theorem RX_k {D : va_G} {cI cZ cW : ClassId} {Z Y : Nat → Nat → Nat} {e1 e2 : Nat} {S : Nat → CS} {a : AS} {H : Heap} {s : State} {k : Nat} (hk : k = 7 ∨ k = 8) (hK : va_K D classes (tyl cI cZ cW) s) (hP : va_P D classes (XW cI cZ cW Z Y e1 e2 S a) H) : ∃ cell : Cell, H[Z k 0]? = some cell ∧ cell.vm.isStatics = false ∧ s.vm.findClass RX5 = some cell.cls := by
  rcases hk with rfl | rfl
  · exact va_recv hK hP (ci := 3) (q0 := 35) rfl eX_35
  · exact va_recv hK hP (ci := 3) (q0 := 40) rfl eX_40
def PT (aF : Nat) (fF : FA) (As : List Value) : Array Value → State → Prop := va_Pc As (fun U => va_T .int aF 5 (fun j => .int (fF j)) (fun _ => False) U U.heap)
theorem PT_blind {aF : Nat} {fF : FA} {As : List Value} : FrameBlind (PT aF fF As) := fun a U g mk q => ⟨q.1, va_T.moved (u := U) (U := U.calling g mk a) (Vm.Alike.refl U.vm) q.2⟩
theorem PT_mk {aF : Nat} {fF : FA} {As : List Value} {s U : State} {H : Heap} (hT : va_T .int aF 5 (fun j => .int (fF j)) (fun _ => False) s H) (hU : U.heap = H) (hW : s.WarmedH U.vm) : PT aF fF As As.toArray U := ⟨rfl, by
  show va_T .int aF 5 (fun j => .int (fF j)) (fun _ => False) U U.heap
  rw [hU]; exact va_T.moved hW.alike hT⟩
def PRF (D : va_G) (cI cZ cW : ClassId) (aF : Nat) (fF : FA) (As : List Value) (ws : va_W) : Array Value → State → Prop := va_Pc As (fun U => va_P D classes ws U.heap ∧ va_K D classes (tyl cI cZ cW) U ∧ va_T .int aF 5 (fun j => .int (fF j)) (fun _ => False) U U.heap ∧ va_Z "LetHoles" "FACTORIALS" "[I" (.ref aF) (fun _ => False) U U.heap)
theorem PRF_blind {D : va_G} {cI cZ cW : ClassId} {aF : Nat} {fF : FA} {As : List Value} {ws : va_W} : FrameBlind (PRF D cI cZ cW aF fF As ws) := fun a U g mk q => ⟨q.1, q.2.1, va_K.moved (u := U) (U := U.calling g mk a) (Vm.Alike.refl U.vm) q.2.2.1, va_T.moved (u := U) (U := U.calling g mk a) (Vm.Alike.refl U.vm) q.2.2.2.1, va_Z.moved (u := U) (U := U.calling g mk a) (Vm.Alike.refl U.vm) q.2.2.2.2⟩
theorem PRF_mk {D : va_G} {cI cZ cW : ClassId} {aF : Nat} {fF : FA} {As : List Value} {ws : va_W} {s U : State} {H : Heap} (hP : va_P D classes ws H) (hK : va_K D classes (tyl cI cZ cW) s) (hT : va_T .int aF 5 (fun j => .int (fF j)) (fun _ => False) s H) (hZ : va_Z "LetHoles" "FACTORIALS" "[I" (.ref aF) (fun _ => False) s H) (hU : U.heap = H) (hW : s.WarmedH U.vm) : PRF D cI cZ cW aF fF As ws As.toArray U := ⟨rfl, by rw [hU]; exact hP, va_K.moved hW.alike hK, by rw [hU]; exact va_T.moved hW.alike hT, by rw [hU]; exact va_Z.moved hW.alike hZ⟩
set_option maxHeartbeats 4000000 in
set_option maxRecDepth 100000 in
theorem c_X3_getT (l : Launch) (a0 : Nat) (p1 : Int32) (s0 : FA) (Q : Int32 → Prop) (hf : wp_X3_get p1 5 s0 Q) : Met l yX3_get (wsA yX3_get cX3_get 2 (some .int)) ({ frames := 0, cells := 0, slots := 0, locals := 0 }) (PT a0 s0 [.ref a0, .int p1]) (vp_Si Q) 0 0 (fun _ => False) := by
  refine Met.ofW (cc := cX3_get) (maxL := 2) (ret := (some .int)) (by decide) rfl ?_
  intro p e s m args below meth c s₁ B hml hv
  obtain ⟨rfl, hT⟩ := hv
  have hx := B.exec
  have hb := B.bytes
  have hr := B.returns
  have hts := atoms_spec (ws := (wsA yX3_get cX3_get 2 (some .int))) B.pre
  have ht : ∀ w ∈ lw_g, w.before _ s = true := fun w h => hts w (List.mem_cons_of_mem _ h)
  have hown : s.vm.findClass RX3 = some m.cls := findClass_of_methodNamed B.named
  have hlocks := B.notSynchronized
  have hl := lv_entry ([.ref a0, .int p1]) (n := 2) (Nat.le_of_ble_eq_true rfl)
  rw [lg_entry_eq]
  generalize (lg_sl ([.ref a0, .int p1]) ++ List.replicate (2 - (lg_sl ([.ref a0, .int p1])).length) Slot.unset).toArray = ls at hl ⊢
  have hl : lv_has ls 2 [(0, .ref a0), (1, .int p1)] := hl
  unfold wp_X3_get at hf
  refine lv_iload_n hx hb dX3_get_0 rfl (lv_at hl 1 rfl) ?_
  refine lv_if_lt (tgt := 16) hx hb dX3_get_1 (by decide) (fun c_1 => ?_) (fun c_1 => ?_)
  · have hf := hf.1 c_1
    refine lv_bipush (v := (-9 : Int32)) hx hb dX3_get_16 (by decide) ?_
    exact W.iret (v := (-9 : Int32)) hx hb hr (fun t ht hW => ⟨(-9 : Int32), rfl, hf, ht⟩) (fun q h => absurd h List.not_mem_nil) dX3_get_18
  · have hf := hf.2 c_1
    refine lv_iload_n hx hb dX3_get_4 rfl (lv_at hl 1 rfl) ?_
    refine lv_aload_n hx hb dX3_get_5 rfl (lv_at hl 0 rfl) ?_
    refine va_tlen (v := (nI 5)) hx hb hT va_S.rf rfl dX3_get_6 ?_
    refine lv_icmp_ge (tgt := 16) hx hb dX3_get_7 (by decide) (fun c_2 => ?_) (fun c_2 => ?_)
    · have hf := hf.1 c_2
      refine lv_bipush (v := (-9 : Int32)) hx hb dX3_get_16 (by decide) ?_
      exact W.iret (v := (-9 : Int32)) hx hb hr (fun t ht hW => ⟨(-9 : Int32), rfl, hf, ht⟩) (fun q h => absurd h List.not_mem_nil) dX3_get_18
    · have hf := hf.2 c_2
      refine lv_aload_n hx hb dX3_get_10 rfl (lv_at hl 0 rfl) ?_
      refine lv_iload_n hx hb dX3_get_11 rfl (lv_at hl 1 rfl) ?_
      obtain ⟨hi_3, hf⟩ := hf
      refine va_ti (v := .int (s0 p1.toNatClampNeg)) hx hb hT va_S.rf hi_3 rfl dX3_get_12 ?_
      refine lv_goto (tgt := 18) hx hb dX3_get_13 (by decide) ?_
      exact W.iret (v := (s0 p1.toNatClampNeg)) hx hb hr (fun t ht hW => ⟨(s0 p1.toNatClampNeg), rfl, hf, ht⟩) (fun q h => absurd h List.not_mem_nil) dX3_get_18
set_option maxRecDepth 100000 in
theorem XP_2_0c1 {D : va_G} {cI cZ cW : ClassId} {Z Y : Nat → Nat → Nat} {e1 e2 : Nat} {S : Nat → CS} {a : AS} {H : Heap} (h : va_P D classes (XW cI cZ cW Z Y e1 e2 S a) H) : va_P D classes (wD cI cZ (Z 2) (S 2) ++ wI cI (Z 0 1) 48 ((S 0).2.1 0)) H := h.sub [9, 10, 11, 12, 13, 14, 1] rfl
set_option maxRecDepth 100000 in
theorem XD_2_0c1 {cI cZ cW : ClassId} {Z Y : Nat → Nat → Nat} {e1 e2 : Nat} {S : Nat → CS} {a : AS} {A : Nat → Prop} (h : va_D A (XW cI cZ cW Z Y e1 e2 S a)) : va_D A (wD cI cZ (Z 2) (S 2) ++ wI cI (Z 0 1) 48 ((S 0).2.1 0)) := h.sub [9, 10, 11, 12, 13, 14, 1] (by decide) rfl
set_option maxRecDepth 100000 in
theorem XJ_2_0c1 {D : va_G} {cI cZ cW : ClassId} {Z Y : Nat → Nat → Nat} {e1 e2 : Nat} {S : Nat → CS} {a : AS} {H : Heap} {A : Nat → Prop} {H1 : Heap} {n0 : CS} {n1 : FA} (hP : va_P D classes (XW cI cZ cW Z Y e1 e2 S a) H) (hD : va_D A (XW cI cZ cW Z Y e1 e2 S a)) (hk1 : ∀ z : Nat, z < H.size → ¬ va_A (wD cI cZ (Z 2) (S 2) ++ wI cI (Z 0 1) 48 ((S 0).2.1 0)) H.size z → H1[z]? = H[z]?) (hB : va_P D classes (wD cI cZ (Z 2) n0 ++ wI cI (Z 0 1) 48 n1) H1) : va_P D classes (XW cI cZ cW Z Y e1 e2 (va_up (va_up S 2 n0) 0 (sF (S 0) 0 n1)) a) H1 := (cj [9, 10, 11, 12, 13, 14, 1] (wD cI cZ (Z 2) (S 2) ++ wI cI (Z 0 1) 48 ((S 0).2.1 0)) (wD cI cZ (Z 2) n0 ++ wI cI (Z 0 1) 48 n1) hP hD rfl rfl hk1 hB).1
set_option maxRecDepth 100000 in
theorem XP_4_2 {D : va_G} {cI cZ cW : ClassId} {Z Y : Nat → Nat → Nat} {e1 e2 : Nat} {S : Nat → CS} {a : AS} {H : Heap} (h : va_P D classes (XW cI cZ cW Z Y e1 e2 S a) H) : va_P D classes (wW cI cZ (Z 4) (S 4) ++ wD cI cZ (Z 2) (S 2)) H := h.sub [21, 22, 23, 24, 25, 9, 10, 11, 12, 13, 14] rfl
set_option maxRecDepth 100000 in
theorem XD_4_2 {cI cZ cW : ClassId} {Z Y : Nat → Nat → Nat} {e1 e2 : Nat} {S : Nat → CS} {a : AS} {A : Nat → Prop} (h : va_D A (XW cI cZ cW Z Y e1 e2 S a)) : va_D A (wW cI cZ (Z 4) (S 4) ++ wD cI cZ (Z 2) (S 2)) := h.sub [21, 22, 23, 24, 25, 9, 10, 11, 12, 13, 14] (by decide) rfl
set_option maxRecDepth 100000 in
theorem XJ_4_2 {D : va_G} {cI cZ cW : ClassId} {Z Y : Nat → Nat → Nat} {e1 e2 : Nat} {S : Nat → CS} {a : AS} {H : Heap} {A : Nat → Prop} {H1 : Heap} {n0 : CS} {n1 : CS} (hP : va_P D classes (XW cI cZ cW Z Y e1 e2 S a) H) (hD : va_D A (XW cI cZ cW Z Y e1 e2 S a)) (hk1 : ∀ z : Nat, z < H.size → ¬ va_A (wW cI cZ (Z 4) (S 4) ++ wD cI cZ (Z 2) (S 2)) H.size z → H1[z]? = H[z]?) (hB : va_P D classes (wW cI cZ (Z 4) n0 ++ wD cI cZ (Z 2) n1) H1) : va_P D classes (XW cI cZ cW Z Y e1 e2 (va_up (va_up S 4 n0) 2 n1) a) H1 := (cj [21, 22, 23, 24, 25, 9, 10, 11, 12, 13, 14] (wW cI cZ (Z 4) (S 4) ++ wD cI cZ (Z 2) (S 2)) (wW cI cZ (Z 4) n0 ++ wD cI cZ (Z 2) n1) hP hD rfl rfl hk1 hB).1
set_option maxRecDepth 100000 in
theorem XP_9 {D : va_G} {cI cZ cW : ClassId} {Z Y : Nat → Nat → Nat} {e1 e2 : Nat} {S : Nat → CS} {a : AS} {H : Heap} (h : va_P D classes (XW cI cZ cW Z Y e1 e2 S a) H) : va_P D classes (wA cI cZ cW (Z 9) Y a) H := P_cs (pre := XWp cI cZ cW Z e1 e2 S) (suf := wA cI cZ cW (Z 9) Y a) (c1 := ([] : va_W)) [] rfl h
set_option maxRecDepth 100000 in
theorem XD_9 {cI cZ cW : ClassId} {Z Y : Nat → Nat → Nat} {e1 e2 : Nat} {S : Nat → CS} {a : AS} {A : Nat → Prop} (h : va_D A (XW cI cZ cW Z Y e1 e2 S a)) : va_D A (wA cI cZ cW (Z 9) Y a) := D_cs (pre := XWp cI cZ cW Z e1 e2 S) (suf := wA cI cZ cW (Z 9) Y a) (c1 := ([] : va_W)) [] (by decide) rfl h
set_option maxRecDepth 100000 in
theorem XJ_9 {D : va_G} {cI cZ cW : ClassId} {Z Y : Nat → Nat → Nat} {e1 e2 : Nat} {S : Nat → CS} {a : AS} {H : Heap} {A : Nat → Prop} {H1 : Heap} {n0 : AS} (hP : va_P D classes (XW cI cZ cW Z Y e1 e2 S a) H) (hD : va_D A (XW cI cZ cW Z Y e1 e2 S a)) (hk1 : ∀ z : Nat, z < H.size → ¬ va_A (wA cI cZ cW (Z 9) Y a) H.size z → H1[z]? = H[z]?) (hB : va_P D classes (wA cI cZ cW (Z 9) Y n0) H1) : va_P D classes (XW cI cZ cW Z Y e1 e2 (S) n0) H1 := cj2 (pre := XWp cI cZ cW Z e1 e2 S) (suf := wA cI cZ cW (Z 9) Y a) (suf1 := wA cI cZ cW (Z 9) Y n0) (c1 := ([] : va_W)) (w1 := ([] : va_W)) [] hP hD rfl rfl hk1 hB
set_option maxRecDepth 100000 in
theorem XP_1 {D : va_G} {cI cZ cW : ClassId} {Z Y : Nat → Nat → Nat} {e1 e2 : Nat} {S : Nat → CS} {a : AS} {H : Heap} (h : va_P D classes (XW cI cZ cW Z Y e1 e2 S a) H) : va_P D classes (wD cI cZ (Z 1) (S 1)) H := h.sub [3, 4, 5, 6, 7, 8] rfl
set_option maxRecDepth 100000 in
theorem XP_1c1 {D : va_G} {cI cZ cW : ClassId} {Z Y : Nat → Nat → Nat} {e1 e2 : Nat} {S : Nat → CS} {a : AS} {H : Heap} (h : va_P D classes (XW cI cZ cW Z Y e1 e2 S a) H) : va_P D classes (wI cI (Z 1 1) 4 ((S 1).2.1 2)) H := h.sub [4] rfl
set_option maxRecDepth 100000 in
theorem XP_4c4 {D : va_G} {cI cZ cW : ClassId} {Z Y : Nat → Nat → Nat} {e1 e2 : Nat} {S : Nat → CS} {a : AS} {H : Heap} (h : va_P D classes (XW cI cZ cW Z Y e1 e2 S a) H) : va_P D classes (wI cI (Z 4 4) 4 ((S 4).2.1 3)) H := h.sub [25] rfl
set_option maxRecDepth 100000 in
theorem XP_1c3 {D : va_G} {cI cZ cW : ClassId} {Z Y : Nat → Nat → Nat} {e1 e2 : Nat} {S : Nat → CS} {a : AS} {H : Heap} (h : va_P D classes (XW cI cZ cW Z Y e1 e2 S a) H) : va_P D classes (wI cI (Z 1 3) 5 ((S 1).2.1 4)) H := h.sub [6] rfl
set_option maxRecDepth 100000 in
theorem XP_4c2 {D : va_G} {cI cZ cW : ClassId} {Z Y : Nat → Nat → Nat} {e1 e2 : Nat} {S : Nat → CS} {a : AS} {H : Heap} (h : va_P D classes (XW cI cZ cW Z Y e1 e2 S a) H) : va_P D classes (wI cI (Z 4 2) 5 ((S 4).2.1 1)) H := h.sub [23] rfl
set_option maxRecDepth 100000 in
theorem XP_4c3 {D : va_G} {cI cZ cW : ClassId} {Z Y : Nat → Nat → Nat} {e1 e2 : Nat} {S : Nat → CS} {a : AS} {H : Heap} (h : va_P D classes (XW cI cZ cW Z Y e1 e2 S a) H) : va_P D classes (wI cI (Z 4 3) 5 ((S 4).2.1 2)) H := h.sub [24] rfl
set_option maxRecDepth 100000 in
theorem XP_9_4 {D : va_G} {cI cZ cW : ClassId} {Z Y : Nat → Nat → Nat} {e1 e2 : Nat} {S : Nat → CS} {a : AS} {H : Heap} (h : va_P D classes (XW cI cZ cW Z Y e1 e2 S a) H) : va_P D classes (AW cI cZ cW (Z 9) (Z 4) Y a (S 4)) H := P_cs (pre := XWp cI cZ cW Z e1 e2 S) (suf := wA cI cZ cW (Z 9) Y a) (c1 := (wW cI cZ (Z 4) (S 4))) [21, 22, 23, 24, 25] rfl h
set_option maxRecDepth 100000 in
theorem XD_9_4 {cI cZ cW : ClassId} {Z Y : Nat → Nat → Nat} {e1 e2 : Nat} {S : Nat → CS} {a : AS} {A : Nat → Prop} (h : va_D A (XW cI cZ cW Z Y e1 e2 S a)) : va_D A (AW cI cZ cW (Z 9) (Z 4) Y a (S 4)) := D_cs (pre := XWp cI cZ cW Z e1 e2 S) (suf := wA cI cZ cW (Z 9) Y a) (c1 := (wW cI cZ (Z 4) (S 4))) [21, 22, 23, 24, 25] (by decide) rfl h
set_option maxRecDepth 100000 in
theorem XJ_9_4 {D : va_G} {cI cZ cW : ClassId} {Z Y : Nat → Nat → Nat} {e1 e2 : Nat} {S : Nat → CS} {a : AS} {H : Heap} {A : Nat → Prop} {H1 : Heap} {n0 : AS} {n1 : CS} (hP : va_P D classes (XW cI cZ cW Z Y e1 e2 S a) H) (hD : va_D A (XW cI cZ cW Z Y e1 e2 S a)) (hk1 : ∀ z : Nat, z < H.size → ¬ va_A (AW cI cZ cW (Z 9) (Z 4) Y a (S 4)) H.size z → H1[z]? = H[z]?) (hB : va_P D classes (AW cI cZ cW (Z 9) (Z 4) Y n0 n1) H1) : va_P D classes (XW cI cZ cW Z Y e1 e2 (va_up S 4 n1) n0) H1 := cj2 (pre := XWp cI cZ cW Z e1 e2 S) (suf := wA cI cZ cW (Z 9) Y a) (suf1 := wA cI cZ cW (Z 9) Y n0) (c1 := (wW cI cZ (Z 4) (S 4))) (w1 := (wW cI cZ (Z 4) n1)) [21, 22, 23, 24, 25] hP hD rfl rfl hk1 hB
set_option maxRecDepth 100000 in
theorem XP_4_1 {D : va_G} {cI cZ cW : ClassId} {Z Y : Nat → Nat → Nat} {e1 e2 : Nat} {S : Nat → CS} {a : AS} {H : Heap} (h : va_P D classes (XW cI cZ cW Z Y e1 e2 S a) H) : va_P D classes (wW cI cZ (Z 4) (S 4) ++ wD cI cZ (Z 1) (S 1)) H := h.sub [21, 22, 23, 24, 25, 3, 4, 5, 6, 7, 8] rfl
set_option maxRecDepth 100000 in
theorem XD_4_1 {cI cZ cW : ClassId} {Z Y : Nat → Nat → Nat} {e1 e2 : Nat} {S : Nat → CS} {a : AS} {A : Nat → Prop} (h : va_D A (XW cI cZ cW Z Y e1 e2 S a)) : va_D A (wW cI cZ (Z 4) (S 4) ++ wD cI cZ (Z 1) (S 1)) := h.sub [21, 22, 23, 24, 25, 3, 4, 5, 6, 7, 8] (by decide) rfl
set_option maxRecDepth 100000 in
theorem XJ_4_1 {D : va_G} {cI cZ cW : ClassId} {Z Y : Nat → Nat → Nat} {e1 e2 : Nat} {S : Nat → CS} {a : AS} {H : Heap} {A : Nat → Prop} {H1 : Heap} {n0 : CS} {n1 : CS} (hP : va_P D classes (XW cI cZ cW Z Y e1 e2 S a) H) (hD : va_D A (XW cI cZ cW Z Y e1 e2 S a)) (hk1 : ∀ z : Nat, z < H.size → ¬ va_A (wW cI cZ (Z 4) (S 4) ++ wD cI cZ (Z 1) (S 1)) H.size z → H1[z]? = H[z]?) (hB : va_P D classes (wW cI cZ (Z 4) n0 ++ wD cI cZ (Z 1) n1) H1) : va_P D classes (XW cI cZ cW Z Y e1 e2 (va_up (va_up S 4 n0) 1 n1) a) H1 := (cj [21, 22, 23, 24, 25, 3, 4, 5, 6, 7, 8] (wW cI cZ (Z 4) (S 4) ++ wD cI cZ (Z 1) (S 1)) (wW cI cZ (Z 4) n0 ++ wD cI cZ (Z 1) n1) hP hD rfl rfl hk1 hB).1
set_option maxRecDepth 100000 in
theorem XP_4 {D : va_G} {cI cZ cW : ClassId} {Z Y : Nat → Nat → Nat} {e1 e2 : Nat} {S : Nat → CS} {a : AS} {H : Heap} (h : va_P D classes (XW cI cZ cW Z Y e1 e2 S a) H) : va_P D classes (wW cI cZ (Z 4) (S 4)) H := h.sub [21, 22, 23, 24, 25] rfl
set_option maxRecDepth 100000 in
theorem XD_4 {cI cZ cW : ClassId} {Z Y : Nat → Nat → Nat} {e1 e2 : Nat} {S : Nat → CS} {a : AS} {A : Nat → Prop} (h : va_D A (XW cI cZ cW Z Y e1 e2 S a)) : va_D A (wW cI cZ (Z 4) (S 4)) := h.sub [21, 22, 23, 24, 25] (by decide) rfl
set_option maxRecDepth 100000 in
theorem XJ_4 {D : va_G} {cI cZ cW : ClassId} {Z Y : Nat → Nat → Nat} {e1 e2 : Nat} {S : Nat → CS} {a : AS} {H : Heap} {A : Nat → Prop} {H1 : Heap} {n0 : CS} (hP : va_P D classes (XW cI cZ cW Z Y e1 e2 S a) H) (hD : va_D A (XW cI cZ cW Z Y e1 e2 S a)) (hk1 : ∀ z : Nat, z < H.size → ¬ va_A (wW cI cZ (Z 4) (S 4)) H.size z → H1[z]? = H[z]?) (hB : va_P D classes (wW cI cZ (Z 4) n0) H1) : va_P D classes (XW cI cZ cW Z Y e1 e2 (va_up S 4 n0) a) H1 := (cj [21, 22, 23, 24, 25] (wW cI cZ (Z 4) (S 4)) (wW cI cZ (Z 4) n0) hP hD rfl rfl hk1 hB).1
set_option maxRecDepth 100000 in
theorem XP_5_1 {D : va_G} {cI cZ cW : ClassId} {Z Y : Nat → Nat → Nat} {e1 e2 : Nat} {S : Nat → CS} {a : AS} {H : Heap} (h : va_P D classes (XW cI cZ cW Z Y e1 e2 S a) H) : va_P D classes (wW cI cZ (Z 5) (S 5) ++ wD cI cZ (Z 1) (S 1)) H := h.sub [26, 27, 28, 29, 30, 3, 4, 5, 6, 7, 8] rfl
set_option maxRecDepth 100000 in
theorem XD_5_1 {cI cZ cW : ClassId} {Z Y : Nat → Nat → Nat} {e1 e2 : Nat} {S : Nat → CS} {a : AS} {A : Nat → Prop} (h : va_D A (XW cI cZ cW Z Y e1 e2 S a)) : va_D A (wW cI cZ (Z 5) (S 5) ++ wD cI cZ (Z 1) (S 1)) := h.sub [26, 27, 28, 29, 30, 3, 4, 5, 6, 7, 8] (by decide) rfl
set_option maxRecDepth 100000 in
theorem XJ_5_1 {D : va_G} {cI cZ cW : ClassId} {Z Y : Nat → Nat → Nat} {e1 e2 : Nat} {S : Nat → CS} {a : AS} {H : Heap} {A : Nat → Prop} {H1 : Heap} {n0 : CS} {n1 : CS} (hP : va_P D classes (XW cI cZ cW Z Y e1 e2 S a) H) (hD : va_D A (XW cI cZ cW Z Y e1 e2 S a)) (hk1 : ∀ z : Nat, z < H.size → ¬ va_A (wW cI cZ (Z 5) (S 5) ++ wD cI cZ (Z 1) (S 1)) H.size z → H1[z]? = H[z]?) (hB : va_P D classes (wW cI cZ (Z 5) n0 ++ wD cI cZ (Z 1) n1) H1) : va_P D classes (XW cI cZ cW Z Y e1 e2 (va_up (va_up S 5 n0) 1 n1) a) H1 := (cj [26, 27, 28, 29, 30, 3, 4, 5, 6, 7, 8] (wW cI cZ (Z 5) (S 5) ++ wD cI cZ (Z 1) (S 1)) (wW cI cZ (Z 5) n0 ++ wD cI cZ (Z 1) n1) hP hD rfl rfl hk1 hB).1
set_option maxRecDepth 100000 in
theorem XP_5_4 {D : va_G} {cI cZ cW : ClassId} {Z Y : Nat → Nat → Nat} {e1 e2 : Nat} {S : Nat → CS} {a : AS} {H : Heap} (h : va_P D classes (XW cI cZ cW Z Y e1 e2 S a) H) : va_P D classes (wW cI cZ (Z 5) (S 5) ++ wW cI cZ (Z 4) (S 4)) H := h.sub [26, 27, 28, 29, 30, 21, 22, 23, 24, 25] rfl
set_option maxRecDepth 100000 in
theorem XD_5_4 {cI cZ cW : ClassId} {Z Y : Nat → Nat → Nat} {e1 e2 : Nat} {S : Nat → CS} {a : AS} {A : Nat → Prop} (h : va_D A (XW cI cZ cW Z Y e1 e2 S a)) : va_D A (wW cI cZ (Z 5) (S 5) ++ wW cI cZ (Z 4) (S 4)) := h.sub [26, 27, 28, 29, 30, 21, 22, 23, 24, 25] (by decide) rfl
set_option maxRecDepth 100000 in
theorem XJ_5_4 {D : va_G} {cI cZ cW : ClassId} {Z Y : Nat → Nat → Nat} {e1 e2 : Nat} {S : Nat → CS} {a : AS} {H : Heap} {A : Nat → Prop} {H1 : Heap} {n0 : CS} {n1 : CS} (hP : va_P D classes (XW cI cZ cW Z Y e1 e2 S a) H) (hD : va_D A (XW cI cZ cW Z Y e1 e2 S a)) (hk1 : ∀ z : Nat, z < H.size → ¬ va_A (wW cI cZ (Z 5) (S 5) ++ wW cI cZ (Z 4) (S 4)) H.size z → H1[z]? = H[z]?) (hB : va_P D classes (wW cI cZ (Z 5) n0 ++ wW cI cZ (Z 4) n1) H1) : va_P D classes (XW cI cZ cW Z Y e1 e2 (va_up (va_up S 5 n0) 4 n1) a) H1 := (cj [26, 27, 28, 29, 30, 21, 22, 23, 24, 25] (wW cI cZ (Z 5) (S 5) ++ wW cI cZ (Z 4) (S 4)) (wW cI cZ (Z 5) n0 ++ wW cI cZ (Z 4) n1) hP hD rfl rfl hk1 hB).1
set_option maxRecDepth 100000 in
theorem XP_6 {D : va_G} {cI cZ cW : ClassId} {Z Y : Nat → Nat → Nat} {e1 e2 : Nat} {S : Nat → CS} {a : AS} {H : Heap} (h : va_P D classes (XW cI cZ cW Z Y e1 e2 S a) H) : va_P D classes (wT cI cZ (Z 6) (S 6)) H := h.sub [31, 32, 33, 34] rfl
set_option maxRecDepth 100000 in
theorem XD_6 {cI cZ cW : ClassId} {Z Y : Nat → Nat → Nat} {e1 e2 : Nat} {S : Nat → CS} {a : AS} {A : Nat → Prop} (h : va_D A (XW cI cZ cW Z Y e1 e2 S a)) : va_D A (wT cI cZ (Z 6) (S 6)) := h.sub [31, 32, 33, 34] (by decide) rfl
set_option maxRecDepth 100000 in
theorem XJ_6 {D : va_G} {cI cZ cW : ClassId} {Z Y : Nat → Nat → Nat} {e1 e2 : Nat} {S : Nat → CS} {a : AS} {H : Heap} {A : Nat → Prop} {H1 : Heap} {n0 : CS} (hP : va_P D classes (XW cI cZ cW Z Y e1 e2 S a) H) (hD : va_D A (XW cI cZ cW Z Y e1 e2 S a)) (hk1 : ∀ z : Nat, z < H.size → ¬ va_A (wT cI cZ (Z 6) (S 6)) H.size z → H1[z]? = H[z]?) (hB : va_P D classes (wT cI cZ (Z 6) n0) H1) : va_P D classes (XW cI cZ cW Z Y e1 e2 (va_up S 6 n0) a) H1 := (cj [31, 32, 33, 34] (wT cI cZ (Z 6) (S 6)) (wT cI cZ (Z 6) n0) hP hD rfl rfl hk1 hB).1
set_option maxRecDepth 100000 in
theorem XP_5_3 {D : va_G} {cI cZ cW : ClassId} {Z Y : Nat → Nat → Nat} {e1 e2 : Nat} {S : Nat → CS} {a : AS} {H : Heap} (h : va_P D classes (XW cI cZ cW Z Y e1 e2 S a) H) : va_P D classes (wW cI cZ (Z 5) (S 5) ++ wD cI cZ (Z 3) (S 3)) H := h.sub [26, 27, 28, 29, 30, 15, 16, 17, 18, 19, 20] rfl
set_option maxRecDepth 100000 in
theorem XD_5_3 {cI cZ cW : ClassId} {Z Y : Nat → Nat → Nat} {e1 e2 : Nat} {S : Nat → CS} {a : AS} {A : Nat → Prop} (h : va_D A (XW cI cZ cW Z Y e1 e2 S a)) : va_D A (wW cI cZ (Z 5) (S 5) ++ wD cI cZ (Z 3) (S 3)) := h.sub [26, 27, 28, 29, 30, 15, 16, 17, 18, 19, 20] (by decide) rfl
set_option maxRecDepth 100000 in
theorem XJ_5_3 {D : va_G} {cI cZ cW : ClassId} {Z Y : Nat → Nat → Nat} {e1 e2 : Nat} {S : Nat → CS} {a : AS} {H : Heap} {A : Nat → Prop} {H1 : Heap} {n0 : CS} {n1 : CS} (hP : va_P D classes (XW cI cZ cW Z Y e1 e2 S a) H) (hD : va_D A (XW cI cZ cW Z Y e1 e2 S a)) (hk1 : ∀ z : Nat, z < H.size → ¬ va_A (wW cI cZ (Z 5) (S 5) ++ wD cI cZ (Z 3) (S 3)) H.size z → H1[z]? = H[z]?) (hB : va_P D classes (wW cI cZ (Z 5) n0 ++ wD cI cZ (Z 3) n1) H1) : va_P D classes (XW cI cZ cW Z Y e1 e2 (va_up (va_up S 5 n0) 3 n1) a) H1 := (cj [26, 27, 28, 29, 30, 15, 16, 17, 18, 19, 20] (wW cI cZ (Z 5) (S 5) ++ wD cI cZ (Z 3) (S 3)) (wW cI cZ (Z 5) n0 ++ wD cI cZ (Z 3) n1) hP hD rfl rfl hk1 hB).1
set_option maxRecDepth 100000 in
theorem XP_5 {D : va_G} {cI cZ cW : ClassId} {Z Y : Nat → Nat → Nat} {e1 e2 : Nat} {S : Nat → CS} {a : AS} {H : Heap} (h : va_P D classes (XW cI cZ cW Z Y e1 e2 S a) H) : va_P D classes (wW cI cZ (Z 5) (S 5)) H := h.sub [26, 27, 28, 29, 30] rfl
set_option maxRecDepth 100000 in
theorem XD_5 {cI cZ cW : ClassId} {Z Y : Nat → Nat → Nat} {e1 e2 : Nat} {S : Nat → CS} {a : AS} {A : Nat → Prop} (h : va_D A (XW cI cZ cW Z Y e1 e2 S a)) : va_D A (wW cI cZ (Z 5) (S 5)) := h.sub [26, 27, 28, 29, 30] (by decide) rfl
set_option maxRecDepth 100000 in
theorem XJ_5 {D : va_G} {cI cZ cW : ClassId} {Z Y : Nat → Nat → Nat} {e1 e2 : Nat} {S : Nat → CS} {a : AS} {H : Heap} {A : Nat → Prop} {H1 : Heap} {n0 : CS} (hP : va_P D classes (XW cI cZ cW Z Y e1 e2 S a) H) (hD : va_D A (XW cI cZ cW Z Y e1 e2 S a)) (hk1 : ∀ z : Nat, z < H.size → ¬ va_A (wW cI cZ (Z 5) (S 5)) H.size z → H1[z]? = H[z]?) (hB : va_P D classes (wW cI cZ (Z 5) n0) H1) : va_P D classes (XW cI cZ cW Z Y e1 e2 (va_up S 5 n0) a) H1 := (cj [26, 27, 28, 29, 30] (wW cI cZ (Z 5) (S 5)) (wW cI cZ (Z 5) n0) hP hD rfl rfl hk1 hB).1
set_option maxRecDepth 100000 in
theorem XP_3 {D : va_G} {cI cZ cW : ClassId} {Z Y : Nat → Nat → Nat} {e1 e2 : Nat} {S : Nat → CS} {a : AS} {H : Heap} (h : va_P D classes (XW cI cZ cW Z Y e1 e2 S a) H) : va_P D classes (wD cI cZ (Z 3) (S 3)) H := h.sub [15, 16, 17, 18, 19, 20] rfl
set_option maxRecDepth 100000 in
theorem XD_3 {cI cZ cW : ClassId} {Z Y : Nat → Nat → Nat} {e1 e2 : Nat} {S : Nat → CS} {a : AS} {A : Nat → Prop} (h : va_D A (XW cI cZ cW Z Y e1 e2 S a)) : va_D A (wD cI cZ (Z 3) (S 3)) := h.sub [15, 16, 17, 18, 19, 20] (by decide) rfl
set_option maxRecDepth 100000 in
theorem XJ_3 {D : va_G} {cI cZ cW : ClassId} {Z Y : Nat → Nat → Nat} {e1 e2 : Nat} {S : Nat → CS} {a : AS} {H : Heap} {A : Nat → Prop} {H1 : Heap} {n0 : CS} (hP : va_P D classes (XW cI cZ cW Z Y e1 e2 S a) H) (hD : va_D A (XW cI cZ cW Z Y e1 e2 S a)) (hk1 : ∀ z : Nat, z < H.size → ¬ va_A (wD cI cZ (Z 3) (S 3)) H.size z → H1[z]? = H[z]?) (hB : va_P D classes (wD cI cZ (Z 3) n0) H1) : va_P D classes (XW cI cZ cW Z Y e1 e2 (va_up S 3 n0) a) H1 := (cj [15, 16, 17, 18, 19, 20] (wD cI cZ (Z 3) (S 3)) (wD cI cZ (Z 3) n0) hP hD rfl rfl hk1 hB).1
set_option maxRecDepth 100000 in
theorem XP_k_4 {D : va_G} {cI cZ cW : ClassId} {Z Y : Nat → Nat → Nat} {e1 e2 : Nat} {S : Nat → CS} {a : AS} {H : Heap} {k : Nat} (hk : k = 7 ∨ k = 8) (h : va_P D classes (XW cI cZ cW Z Y e1 e2 S a) H) : va_P D classes (wW cI cZ (Z k) (S k) ++ wW cI cZ (Z 4) (S 4)) H := by
  rcases hk with rfl | rfl
  · exact h.sub [35, 36, 37, 38, 39, 21, 22, 23, 24, 25] rfl
  · exact h.sub [40, 41, 42, 43, 44, 21, 22, 23, 24, 25] rfl
set_option maxRecDepth 100000 in
theorem XD_k_4 {cI cZ cW : ClassId} {Z Y : Nat → Nat → Nat} {e1 e2 : Nat} {S : Nat → CS} {a : AS} {A : Nat → Prop} {k : Nat} (hk : k = 7 ∨ k = 8) (h : va_D A (XW cI cZ cW Z Y e1 e2 S a)) : va_D A (wW cI cZ (Z k) (S k) ++ wW cI cZ (Z 4) (S 4)) := by
  rcases hk with rfl | rfl
  · exact h.sub [35, 36, 37, 38, 39, 21, 22, 23, 24, 25] (by decide) rfl
  · exact h.sub [40, 41, 42, 43, 44, 21, 22, 23, 24, 25] (by decide) rfl
set_option maxRecDepth 100000 in
theorem XJ_k_4 {D : va_G} {cI cZ cW : ClassId} {Z Y : Nat → Nat → Nat} {e1 e2 : Nat} {S : Nat → CS} {a : AS} {H : Heap} {A : Nat → Prop} {H1 : Heap} {n0 : CS} {n1 : CS} {k : Nat} (hk : k = 7 ∨ k = 8) (hP : va_P D classes (XW cI cZ cW Z Y e1 e2 S a) H) (hD : va_D A (XW cI cZ cW Z Y e1 e2 S a)) (hk1 : ∀ z : Nat, z < H.size → ¬ va_A (wW cI cZ (Z k) (S k) ++ wW cI cZ (Z 4) (S 4)) H.size z → H1[z]? = H[z]?) (hB : va_P D classes (wW cI cZ (Z k) n0 ++ wW cI cZ (Z 4) n1) H1) : va_P D classes (XW cI cZ cW Z Y e1 e2 (va_up (va_up S k n0) 4 n1) a) H1 := by
  rcases hk with rfl | rfl
  · exact (cj [35, 36, 37, 38, 39, 21, 22, 23, 24, 25] (wW cI cZ (Z 7) (S 7) ++ wW cI cZ (Z 4) (S 4)) (wW cI cZ (Z 7) n0 ++ wW cI cZ (Z 4) n1) hP hD rfl rfl hk1 hB).1
  · exact (cj [40, 41, 42, 43, 44, 21, 22, 23, 24, 25] (wW cI cZ (Z 8) (S 8) ++ wW cI cZ (Z 4) (S 4)) (wW cI cZ (Z 8) n0 ++ wW cI cZ (Z 4) n1) hP hD rfl rfl hk1 hB).1
set_option maxRecDepth 100000 in
theorem XP_4_k {D : va_G} {cI cZ cW : ClassId} {Z Y : Nat → Nat → Nat} {e1 e2 : Nat} {S : Nat → CS} {a : AS} {H : Heap} {k : Nat} (hk : k = 7 ∨ k = 8) (h : va_P D classes (XW cI cZ cW Z Y e1 e2 S a) H) : va_P D classes (wW cI cZ (Z 4) (S 4) ++ wW cI cZ (Z k) (S k)) H := by
  rcases hk with rfl | rfl
  · exact h.sub [21, 22, 23, 24, 25, 35, 36, 37, 38, 39] rfl
  · exact h.sub [21, 22, 23, 24, 25, 40, 41, 42, 43, 44] rfl
set_option maxRecDepth 100000 in
theorem XD_4_k {cI cZ cW : ClassId} {Z Y : Nat → Nat → Nat} {e1 e2 : Nat} {S : Nat → CS} {a : AS} {A : Nat → Prop} {k : Nat} (hk : k = 7 ∨ k = 8) (h : va_D A (XW cI cZ cW Z Y e1 e2 S a)) : va_D A (wW cI cZ (Z 4) (S 4) ++ wW cI cZ (Z k) (S k)) := by
  rcases hk with rfl | rfl
  · exact h.sub [21, 22, 23, 24, 25, 35, 36, 37, 38, 39] (by decide) rfl
  · exact h.sub [21, 22, 23, 24, 25, 40, 41, 42, 43, 44] (by decide) rfl
set_option maxRecDepth 100000 in
theorem XJ_4_k {D : va_G} {cI cZ cW : ClassId} {Z Y : Nat → Nat → Nat} {e1 e2 : Nat} {S : Nat → CS} {a : AS} {H : Heap} {A : Nat → Prop} {H1 : Heap} {n0 : CS} {n1 : CS} {k : Nat} (hk : k = 7 ∨ k = 8) (hP : va_P D classes (XW cI cZ cW Z Y e1 e2 S a) H) (hD : va_D A (XW cI cZ cW Z Y e1 e2 S a)) (hk1 : ∀ z : Nat, z < H.size → ¬ va_A (wW cI cZ (Z 4) (S 4) ++ wW cI cZ (Z k) (S k)) H.size z → H1[z]? = H[z]?) (hB : va_P D classes (wW cI cZ (Z 4) n0 ++ wW cI cZ (Z k) n1) H1) : va_P D classes (XW cI cZ cW Z Y e1 e2 (va_up (va_up S 4 n0) k n1) a) H1 := by
  rcases hk with rfl | rfl
  · exact (cj [21, 22, 23, 24, 25, 35, 36, 37, 38, 39] (wW cI cZ (Z 4) (S 4) ++ wW cI cZ (Z 7) (S 7)) (wW cI cZ (Z 4) n0 ++ wW cI cZ (Z 7) n1) hP hD rfl rfl hk1 hB).1
  · exact (cj [21, 22, 23, 24, 25, 40, 41, 42, 43, 44] (wW cI cZ (Z 4) (S 4) ++ wW cI cZ (Z 8) (S 8)) (wW cI cZ (Z 4) n0 ++ wW cI cZ (Z 8) n1) hP hD rfl rfl hk1 hB).1
