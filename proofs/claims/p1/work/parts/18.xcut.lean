theorem RX_k {D : va_G} {cI cZ cW : ClassId} {Z Y : Nat → Nat → Nat} {e1 e2 : Nat} {S : Nat → CS} {a : AS} {H : Heap} {s : State} {k : Nat} (hk : k = 7 ∨ k = 8) (hK : va_K D classes (tyl cI cZ cW) s) (hP : va_P D classes (XW cI cZ cW Z Y e1 e2 S a) H) : ∃ cell : Cell, H[Z k 0]? = some cell ∧ cell.vm.isStatics = false ∧ s.vm.findClass RX5 = some cell.cls := by
  rcases hk with rfl | rfl
  · exact va_recv hK hP (ci := 3) (q0 := 35) rfl eX_35
  · exact va_recv hK hP (ci := 3) (q0 := 40) rfl eX_40
def PRF (D : va_G) (cI cZ cW : ClassId) (aF : Nat) (fF : FA) (As : List Value) (ws : va_W) : Array Value → State → Prop := va_Pc As (fun U => va_P D classes ws U.heap ∧ va_K D classes (tyl cI cZ cW) U ∧ va_P D classes (wI cI aF 5 fF) U.heap ∧ va_Z "LetHoles" "FACTORIALS" "[I" (.ref aF) (fun _ => False) U U.heap)
set_option maxRecDepth 100000 in
theorem XP_2_0c1 {D : va_G} {cI cZ cW : ClassId} {Z Y : Nat → Nat → Nat} {e1 e2 : Nat} {S : Nat → CS} {a : AS} {H : Heap} (h : va_P D classes (XW cI cZ cW Z Y e1 e2 S a) H) : va_P D classes (wD cI cZ (Z 2) (S 2) ++ wI cI (Z 0 1) 48 ((S 0).2.1 0)) H := h.sub [9, 10, 11, 12, 13, 14, 1] rfl
set_option maxRecDepth 100000 in
theorem XD_2_0c1 {cI cZ cW : ClassId} {Z Y : Nat → Nat → Nat} {e1 e2 : Nat} {S : Nat → CS} {a : AS} {A : Nat → Prop} (h : va_D A (XW cI cZ cW Z Y e1 e2 S a)) : va_D A (wD cI cZ (Z 2) (S 2) ++ wI cI (Z 0 1) 48 ((S 0).2.1 0)) := h.sub [9, 10, 11, 12, 13, 14, 1] (by decide) rfl
set_option maxRecDepth 100000 in
theorem XJ_2_0c1 {D : va_G} {cI cZ cW : ClassId} {Z Y : Nat → Nat → Nat} {e1 e2 : Nat} {S : Nat → CS} {a : AS} {H : Heap} {A : Nat → Prop} {H1 : Heap} {n0 : CS} {n1 : FA} (hP : va_P D classes (XW cI cZ cW Z Y e1 e2 S a) H) (hD : va_D A (XW cI cZ cW Z Y e1 e2 S a)) (hk1 : ∀ z : Nat, z < H.size → ¬ va_A (wD cI cZ (Z 2) (S 2) ++ wI cI (Z 0 1) 48 ((S 0).2.1 0)) H.size z → H1[z]? = H[z]?) (hB : va_P D classes (wD cI cZ (Z 2) n0 ++ wI cI (Z 0 1) 48 n1) H1) : va_P D classes (XW cI cZ cW Z Y e1 e2 (va_up (va_up S 2 n0) 0 (sF (S 0) 0 n1)) a) H1 := (cj [9, 10, 11, 12, 13, 14, 1] (wD cI cZ (Z 2) (S 2) ++ wI cI (Z 0 1) 48 ((S 0).2.1 0)) (wD cI cZ (Z 2) n0 ++ wI cI (Z 0 1) 48 n1) hP hD rfl rfl hk1 hB).1
set_option maxRecDepth 100000 in
theorem XP_4_2 {D : va_G} {cI cZ cW : ClassId} {Z Y : Nat → Nat → Nat} {e1 e2 : Nat} {S : Nat → CS} {a : AS} {H : Heap} (h : va_P D classes (XW cI cZ cW Z Y e1 e2 S a) H) : va_P D classes (wW cI cZ (Z 4) (S 4) ++ wD cI cZ (Z 2) (S 2)) H := h.sub [21, 22, 23, 24, 25, 9, 10, 11, 12, 13, 14] rfl
set_option maxRecDepth 100000 in
theorem XD_4_2 {cI cZ cW : ClassId} {Z Y : Nat → Nat → Nat} {e1 e2 : Nat} {S : Nat → CS} {a : AS} {A : Nat → Prop} (h : va_D A (XW cI cZ cW Z Y e1 e2 S a)) : va_D A (wW cI cZ (Z 4) (S 4) ++ wD cI cZ (Z 2) (S 2)) := h.sub [21, 22, 23, 24, 25, 9, 10, 11, 12, 13, 14] (by decide) rfl
set_option maxRecDepth 100000 in
theorem XJ_4_2 {D : va_G} {cI cZ cW : ClassId} {Z Y : Nat → Nat → Nat} {e1 e2 : Nat} {S : Nat → CS} {a : AS} {H : Heap} {A : Nat → Prop} {H1 : Heap} {n0 : CS} {n1 : CS} (hP : va_P D classes (XW cI cZ cW Z Y e1 e2 S a) H) (hD : va_D A (XW cI cZ cW Z Y e1 e2 S a)) (hk1 : ∀ z : Nat, z < H.size → ¬ va_A (wW cI cZ (Z 4) (S 4) ++ wD cI cZ (Z 2) (S 2)) H.size z → H1[z]? = H[z]?) (hB : va_P D classes (wW cI cZ (Z 4) n0 ++ wD cI cZ (Z 2) n1) H1) : va_P D classes (XW cI cZ cW Z Y e1 e2 (va_up (va_up S 4 n0) 2 n1) a) H1 := (cj [21, 22, 23, 24, 25, 9, 10, 11, 12, 13, 14] (wW cI cZ (Z 4) (S 4) ++ wD cI cZ (Z 2) (S 2)) (wW cI cZ (Z 4) n0 ++ wD cI cZ (Z 2) n1) hP hD rfl rfl hk1 hB).1
set_option maxRecDepth 100000 in
theorem XP_9 {D : va_G} {cI cZ cW : ClassId} {Z Y : Nat → Nat → Nat} {e1 e2 : Nat} {S : Nat → CS} {a : AS} {H : Heap} (h : va_P D classes (XW cI cZ cW Z Y e1 e2 S a) H) : va_P D classes (wA cI cZ cW (Z 9) Y a) H := P_cs (pre := XWp cI cZ cW Z e1 e2 S) (suf := wA cI cZ cW (Z 9) Y a) (c1 := ([] : va_W)) [] rfl h
set_option maxRecDepth 100000 in
theorem XD_9 {cI cZ cW : ClassId} {Z Y : Nat → Nat → Nat} {e1 e2 : Nat} {S : Nat → CS} {a : AS} {A : Nat → Prop} (h : va_D A (XW cI cZ cW Z Y e1 e2 S a)) : va_D A (wA cI cZ cW (Z 9) Y a) := D_cs (pre := XWp cI cZ cW Z e1 e2 S) (suf := wA cI cZ cW (Z 9) Y a) (c1 := ([] : va_W)) [] (by decide) rfl h
set_option maxRecDepth 100000 in
theorem XJ_9 {D : va_G} {cI cZ cW : ClassId} {Z Y : Nat → Nat → Nat} {e1 e2 : Nat} {S : Nat → CS} {a : AS} {H : Heap} {A : Nat → Prop} {H1 : Heap} {n0 : AS} (hP : va_P D classes (XW cI cZ cW Z Y e1 e2 S a) H) (hD : va_D A (XW cI cZ cW Z Y e1 e2 S a)) (hk1 : ∀ z : Nat, z < H.size → ¬ va_A (wA cI cZ cW (Z 9) Y a) H.size z → H1[z]? = H[z]?) (hB : va_P D classes (wA cI cZ cW (Z 9) Y n0) H1) : va_P D classes (XW cI cZ cW Z Y e1 e2 (S) n0) H1 := cj2 (pre := XWp cI cZ cW Z e1 e2 S) (suf := wA cI cZ cW (Z 9) Y a) (suf1 := wA cI cZ cW (Z 9) Y n0) (c1 := ([] : va_W)) (w1 := ([] : va_W)) [] hP hD rfl rfl hk1 hB
set_option maxRecDepth 100000 in
theorem XP_1 {D : va_G} {cI cZ cW : ClassId} {Z Y : Nat → Nat → Nat} {e1 e2 : Nat} {S : Nat → CS} {a : AS} {H : Heap} (h : va_P D classes (XW cI cZ cW Z Y e1 e2 S a) H) : va_P D classes (wD cI cZ (Z 1) (S 1)) H := h.sub [3, 4, 5, 6, 7, 8] rfl
set_option maxRecDepth 100000 in
theorem XP_1c1 {D : va_G} {cI cZ cW : ClassId} {Z Y : Nat → Nat → Nat} {e1 e2 : Nat} {S : Nat → CS} {a : AS} {H : Heap} (h : va_P D classes (XW cI cZ cW Z Y e1 e2 S a) H) : va_P D classes (wI cI (Z 1 1) 4 ((S 1).2.1 2)) H := h.sub [4] rfl
set_option maxRecDepth 100000 in
theorem XP_4c4 {D : va_G} {cI cZ cW : ClassId} {Z Y : Nat → Nat → Nat} {e1 e2 : Nat} {S : Nat → CS} {a : AS} {H : Heap} (h : va_P D classes (XW cI cZ cW Z Y e1 e2 S a) H) : va_P D classes (wI cI (Z 4 4) 4 ((S 4).2.1 3)) H := h.sub [25] rfl
set_option maxRecDepth 100000 in
theorem XP_1c3 {D : va_G} {cI cZ cW : ClassId} {Z Y : Nat → Nat → Nat} {e1 e2 : Nat} {S : Nat → CS} {a : AS} {H : Heap} (h : va_P D classes (XW cI cZ cW Z Y e1 e2 S a) H) : va_P D classes (wI cI (Z 1 3) 5 ((S 1).2.1 4)) H := h.sub [6] rfl
set_option maxRecDepth 100000 in
theorem XP_4c2 {D : va_G} {cI cZ cW : ClassId} {Z Y : Nat → Nat → Nat} {e1 e2 : Nat} {S : Nat → CS} {a : AS} {H : Heap} (h : va_P D classes (XW cI cZ cW Z Y e1 e2 S a) H) : va_P D classes (wI cI (Z 4 2) 5 ((S 4).2.1 1)) H := h.sub [23] rfl
set_option maxRecDepth 100000 in
theorem XP_4c3 {D : va_G} {cI cZ cW : ClassId} {Z Y : Nat → Nat → Nat} {e1 e2 : Nat} {S : Nat → CS} {a : AS} {H : Heap} (h : va_P D classes (XW cI cZ cW Z Y e1 e2 S a) H) : va_P D classes (wI cI (Z 4 3) 5 ((S 4).2.1 2)) H := h.sub [24] rfl
set_option maxRecDepth 100000 in
theorem XP_9_4 {D : va_G} {cI cZ cW : ClassId} {Z Y : Nat → Nat → Nat} {e1 e2 : Nat} {S : Nat → CS} {a : AS} {H : Heap} (h : va_P D classes (XW cI cZ cW Z Y e1 e2 S a) H) : va_P D classes (AW cI cZ cW (Z 9) (Z 4) Y a (S 4)) H := P_cs (pre := XWp cI cZ cW Z e1 e2 S) (suf := wA cI cZ cW (Z 9) Y a) (c1 := (wW cI cZ (Z 4) (S 4))) [21, 22, 23, 24, 25] rfl h
set_option maxRecDepth 100000 in
theorem XD_9_4 {cI cZ cW : ClassId} {Z Y : Nat → Nat → Nat} {e1 e2 : Nat} {S : Nat → CS} {a : AS} {A : Nat → Prop} (h : va_D A (XW cI cZ cW Z Y e1 e2 S a)) : va_D A (AW cI cZ cW (Z 9) (Z 4) Y a (S 4)) := D_cs (pre := XWp cI cZ cW Z e1 e2 S) (suf := wA cI cZ cW (Z 9) Y a) (c1 := (wW cI cZ (Z 4) (S 4))) [21, 22, 23, 24, 25] (by decide) rfl h
set_option maxRecDepth 100000 in
theorem XJ_9_4 {D : va_G} {cI cZ cW : ClassId} {Z Y : Nat → Nat → Nat} {e1 e2 : Nat} {S : Nat → CS} {a : AS} {H : Heap} {A : Nat → Prop} {H1 : Heap} {n0 : AS} {n1 : CS} (hP : va_P D classes (XW cI cZ cW Z Y e1 e2 S a) H) (hD : va_D A (XW cI cZ cW Z Y e1 e2 S a)) (hk1 : ∀ z : Nat, z < H.size → ¬ va_A (AW cI cZ cW (Z 9) (Z 4) Y a (S 4)) H.size z → H1[z]? = H[z]?) (hB : va_P D classes (AW cI cZ cW (Z 9) (Z 4) Y n0 n1) H1) : va_P D classes (XW cI cZ cW Z Y e1 e2 (va_up S 4 n1) n0) H1 := cj2 (pre := XWp cI cZ cW Z e1 e2 S) (suf := wA cI cZ cW (Z 9) Y a) (suf1 := wA cI cZ cW (Z 9) Y n0) (c1 := (wW cI cZ (Z 4) (S 4))) (w1 := (wW cI cZ (Z 4) n1)) [21, 22, 23, 24, 25] hP hD rfl rfl hk1 hB
set_option maxRecDepth 100000 in
theorem XP_4_1 {D : va_G} {cI cZ cW : ClassId} {Z Y : Nat → Nat → Nat} {e1 e2 : Nat} {S : Nat → CS} {a : AS} {H : Heap} (h : va_P D classes (XW cI cZ cW Z Y e1 e2 S a) H) : va_P D classes (wW cI cZ (Z 4) (S 4) ++ wD cI cZ (Z 1) (S 1)) H := h.sub [21, 22, 23, 24, 25, 3, 4, 5, 6, 7, 8] rfl
set_option maxRecDepth 100000 in
theorem XD_4_1 {cI cZ cW : ClassId} {Z Y : Nat → Nat → Nat} {e1 e2 : Nat} {S : Nat → CS} {a : AS} {A : Nat → Prop} (h : va_D A (XW cI cZ cW Z Y e1 e2 S a)) : va_D A (wW cI cZ (Z 4) (S 4) ++ wD cI cZ (Z 1) (S 1)) := h.sub [21, 22, 23, 24, 25, 3, 4, 5, 6, 7, 8] (by decide) rfl
set_option maxRecDepth 100000 in
theorem XJ_4_1 {D : va_G} {cI cZ cW : ClassId} {Z Y : Nat → Nat → Nat} {e1 e2 : Nat} {S : Nat → CS} {a : AS} {H : Heap} {A : Nat → Prop} {H1 : Heap} {n0 : CS} {n1 : CS} (hP : va_P D classes (XW cI cZ cW Z Y e1 e2 S a) H) (hD : va_D A (XW cI cZ cW Z Y e1 e2 S a)) (hk1 : ∀ z : Nat, z < H.size → ¬ va_A (wW cI cZ (Z 4) (S 4) ++ wD cI cZ (Z 1) (S 1)) H.size z → H1[z]? = H[z]?) (hB : va_P D classes (wW cI cZ (Z 4) n0 ++ wD cI cZ (Z 1) n1) H1) : va_P D classes (XW cI cZ cW Z Y e1 e2 (va_up (va_up S 4 n0) 1 n1) a) H1 := (cj [21, 22, 23, 24, 25, 3, 4, 5, 6, 7, 8] (wW cI cZ (Z 4) (S 4) ++ wD cI cZ (Z 1) (S 1)) (wW cI cZ (Z 4) n0 ++ wD cI cZ (Z 1) n1) hP hD rfl rfl hk1 hB).1
set_option maxRecDepth 100000 in
theorem XP_4 {D : va_G} {cI cZ cW : ClassId} {Z Y : Nat → Nat → Nat} {e1 e2 : Nat} {S : Nat → CS} {a : AS} {H : Heap} (h : va_P D classes (XW cI cZ cW Z Y e1 e2 S a) H) : va_P D classes (wW cI cZ (Z 4) (S 4)) H := h.sub [21, 22, 23, 24, 25] rfl
set_option maxRecDepth 100000 in
theorem XD_4 {cI cZ cW : ClassId} {Z Y : Nat → Nat → Nat} {e1 e2 : Nat} {S : Nat → CS} {a : AS} {A : Nat → Prop} (h : va_D A (XW cI cZ cW Z Y e1 e2 S a)) : va_D A (wW cI cZ (Z 4) (S 4)) := h.sub [21, 22, 23, 24, 25] (by decide) rfl
set_option maxRecDepth 100000 in
theorem XJ_4 {D : va_G} {cI cZ cW : ClassId} {Z Y : Nat → Nat → Nat} {e1 e2 : Nat} {S : Nat → CS} {a : AS} {H : Heap} {A : Nat → Prop} {H1 : Heap} {n0 : CS} (hP : va_P D classes (XW cI cZ cW Z Y e1 e2 S a) H) (hD : va_D A (XW cI cZ cW Z Y e1 e2 S a)) (hk1 : ∀ z : Nat, z < H.size → ¬ va_A (wW cI cZ (Z 4) (S 4)) H.size z → H1[z]? = H[z]?) (hB : va_P D classes (wW cI cZ (Z 4) n0) H1) : va_P D classes (XW cI cZ cW Z Y e1 e2 (va_up S 4 n0) a) H1 := (cj [21, 22, 23, 24, 25] (wW cI cZ (Z 4) (S 4)) (wW cI cZ (Z 4) n0) hP hD rfl rfl hk1 hB).1
set_option maxRecDepth 100000 in
theorem XP_5_1 {D : va_G} {cI cZ cW : ClassId} {Z Y : Nat → Nat → Nat} {e1 e2 : Nat} {S : Nat → CS} {a : AS} {H : Heap} (h : va_P D classes (XW cI cZ cW Z Y e1 e2 S a) H) : va_P D classes (wW cI cZ (Z 5) (S 5) ++ wD cI cZ (Z 1) (S 1)) H := h.sub [26, 27, 28, 29, 30, 3, 4, 5, 6, 7, 8] rfl
set_option maxRecDepth 100000 in
theorem XD_5_1 {cI cZ cW : ClassId} {Z Y : Nat → Nat → Nat} {e1 e2 : Nat} {S : Nat → CS} {a : AS} {A : Nat → Prop} (h : va_D A (XW cI cZ cW Z Y e1 e2 S a)) : va_D A (wW cI cZ (Z 5) (S 5) ++ wD cI cZ (Z 1) (S 1)) := h.sub [26, 27, 28, 29, 30, 3, 4, 5, 6, 7, 8] (by decide) rfl
set_option maxRecDepth 100000 in
theorem XJ_5_1 {D : va_G} {cI cZ cW : ClassId} {Z Y : Nat → Nat → Nat} {e1 e2 : Nat} {S : Nat → CS} {a : AS} {H : Heap} {A : Nat → Prop} {H1 : Heap} {n0 : CS} {n1 : CS} (hP : va_P D classes (XW cI cZ cW Z Y e1 e2 S a) H) (hD : va_D A (XW cI cZ cW Z Y e1 e2 S a)) (hk1 : ∀ z : Nat, z < H.size → ¬ va_A (wW cI cZ (Z 5) (S 5) ++ wD cI cZ (Z 1) (S 1)) H.size z → H1[z]? = H[z]?) (hB : va_P D classes (wW cI cZ (Z 5) n0 ++ wD cI cZ (Z 1) n1) H1) : va_P D classes (XW cI cZ cW Z Y e1 e2 (va_up (va_up S 5 n0) 1 n1) a) H1 := (cj [26, 27, 28, 29, 30, 3, 4, 5, 6, 7, 8] (wW cI cZ (Z 5) (S 5) ++ wD cI cZ (Z 1) (S 1)) (wW cI cZ (Z 5) n0 ++ wD cI cZ (Z 1) n1) hP hD rfl rfl hk1 hB).1
set_option maxRecDepth 100000 in
theorem XP_5_4 {D : va_G} {cI cZ cW : ClassId} {Z Y : Nat → Nat → Nat} {e1 e2 : Nat} {S : Nat → CS} {a : AS} {H : Heap} (h : va_P D classes (XW cI cZ cW Z Y e1 e2 S a) H) : va_P D classes (wW cI cZ (Z 5) (S 5) ++ wW cI cZ (Z 4) (S 4)) H := h.sub [26, 27, 28, 29, 30, 21, 22, 23, 24, 25] rfl
set_option maxRecDepth 100000 in
theorem XD_5_4 {cI cZ cW : ClassId} {Z Y : Nat → Nat → Nat} {e1 e2 : Nat} {S : Nat → CS} {a : AS} {A : Nat → Prop} (h : va_D A (XW cI cZ cW Z Y e1 e2 S a)) : va_D A (wW cI cZ (Z 5) (S 5) ++ wW cI cZ (Z 4) (S 4)) := h.sub [26, 27, 28, 29, 30, 21, 22, 23, 24, 25] (by decide) rfl
set_option maxRecDepth 100000 in
theorem XJ_5_4 {D : va_G} {cI cZ cW : ClassId} {Z Y : Nat → Nat → Nat} {e1 e2 : Nat} {S : Nat → CS} {a : AS} {H : Heap} {A : Nat → Prop} {H1 : Heap} {n0 : CS} {n1 : CS} (hP : va_P D classes (XW cI cZ cW Z Y e1 e2 S a) H) (hD : va_D A (XW cI cZ cW Z Y e1 e2 S a)) (hk1 : ∀ z : Nat, z < H.size → ¬ va_A (wW cI cZ (Z 5) (S 5) ++ wW cI cZ (Z 4) (S 4)) H.size z → H1[z]? = H[z]?) (hB : va_P D classes (wW cI cZ (Z 5) n0 ++ wW cI cZ (Z 4) n1) H1) : va_P D classes (XW cI cZ cW Z Y e1 e2 (va_up (va_up S 5 n0) 4 n1) a) H1 := (cj [26, 27, 28, 29, 30, 21, 22, 23, 24, 25] (wW cI cZ (Z 5) (S 5) ++ wW cI cZ (Z 4) (S 4)) (wW cI cZ (Z 5) n0 ++ wW cI cZ (Z 4) n1) hP hD rfl rfl hk1 hB).1
set_option maxRecDepth 100000 in
theorem XP_6 {D : va_G} {cI cZ cW : ClassId} {Z Y : Nat → Nat → Nat} {e1 e2 : Nat} {S : Nat → CS} {a : AS} {H : Heap} (h : va_P D classes (XW cI cZ cW Z Y e1 e2 S a) H) : va_P D classes (wT cI cZ (Z 6) (S 6)) H := h.sub [31, 32, 33, 34] rfl
set_option maxRecDepth 100000 in
theorem XD_6 {cI cZ cW : ClassId} {Z Y : Nat → Nat → Nat} {e1 e2 : Nat} {S : Nat → CS} {a : AS} {A : Nat → Prop} (h : va_D A (XW cI cZ cW Z Y e1 e2 S a)) : va_D A (wT cI cZ (Z 6) (S 6)) := h.sub [31, 32, 33, 34] (by decide) rfl
set_option maxRecDepth 100000 in
theorem XJ_6 {D : va_G} {cI cZ cW : ClassId} {Z Y : Nat → Nat → Nat} {e1 e2 : Nat} {S : Nat → CS} {a : AS} {H : Heap} {A : Nat → Prop} {H1 : Heap} {n0 : CS} (hP : va_P D classes (XW cI cZ cW Z Y e1 e2 S a) H) (hD : va_D A (XW cI cZ cW Z Y e1 e2 S a)) (hk1 : ∀ z : Nat, z < H.size → ¬ va_A (wT cI cZ (Z 6) (S 6)) H.size z → H1[z]? = H[z]?) (hB : va_P D classes (wT cI cZ (Z 6) n0) H1) : va_P D classes (XW cI cZ cW Z Y e1 e2 (va_up S 6 n0) a) H1 := (cj [31, 32, 33, 34] (wT cI cZ (Z 6) (S 6)) (wT cI cZ (Z 6) n0) hP hD rfl rfl hk1 hB).1
set_option maxRecDepth 100000 in
theorem XP_5_3 {D : va_G} {cI cZ cW : ClassId} {Z Y : Nat → Nat → Nat} {e1 e2 : Nat} {S : Nat → CS} {a : AS} {H : Heap} (h : va_P D classes (XW cI cZ cW Z Y e1 e2 S a) H) : va_P D classes (wW cI cZ (Z 5) (S 5) ++ wD cI cZ (Z 3) (S 3)) H := h.sub [26, 27, 28, 29, 30, 15, 16, 17, 18, 19, 20] rfl
set_option maxRecDepth 100000 in
theorem XD_5_3 {cI cZ cW : ClassId} {Z Y : Nat → Nat → Nat} {e1 e2 : Nat} {S : Nat → CS} {a : AS} {A : Nat → Prop} (h : va_D A (XW cI cZ cW Z Y e1 e2 S a)) : va_D A (wW cI cZ (Z 5) (S 5) ++ wD cI cZ (Z 3) (S 3)) := h.sub [26, 27, 28, 29, 30, 15, 16, 17, 18, 19, 20] (by decide) rfl
set_option maxRecDepth 100000 in
theorem XJ_5_3 {D : va_G} {cI cZ cW : ClassId} {Z Y : Nat → Nat → Nat} {e1 e2 : Nat} {S : Nat → CS} {a : AS} {H : Heap} {A : Nat → Prop} {H1 : Heap} {n0 : CS} {n1 : CS} (hP : va_P D classes (XW cI cZ cW Z Y e1 e2 S a) H) (hD : va_D A (XW cI cZ cW Z Y e1 e2 S a)) (hk1 : ∀ z : Nat, z < H.size → ¬ va_A (wW cI cZ (Z 5) (S 5) ++ wD cI cZ (Z 3) (S 3)) H.size z → H1[z]? = H[z]?) (hB : va_P D classes (wW cI cZ (Z 5) n0 ++ wD cI cZ (Z 3) n1) H1) : va_P D classes (XW cI cZ cW Z Y e1 e2 (va_up (va_up S 5 n0) 3 n1) a) H1 := (cj [26, 27, 28, 29, 30, 15, 16, 17, 18, 19, 20] (wW cI cZ (Z 5) (S 5) ++ wD cI cZ (Z 3) (S 3)) (wW cI cZ (Z 5) n0 ++ wD cI cZ (Z 3) n1) hP hD rfl rfl hk1 hB).1
set_option maxRecDepth 100000 in
theorem XP_5 {D : va_G} {cI cZ cW : ClassId} {Z Y : Nat → Nat → Nat} {e1 e2 : Nat} {S : Nat → CS} {a : AS} {H : Heap} (h : va_P D classes (XW cI cZ cW Z Y e1 e2 S a) H) : va_P D classes (wW cI cZ (Z 5) (S 5)) H := h.sub [26, 27, 28, 29, 30] rfl
set_option maxRecDepth 100000 in
theorem XD_5 {cI cZ cW : ClassId} {Z Y : Nat → Nat → Nat} {e1 e2 : Nat} {S : Nat → CS} {a : AS} {A : Nat → Prop} (h : va_D A (XW cI cZ cW Z Y e1 e2 S a)) : va_D A (wW cI cZ (Z 5) (S 5)) := h.sub [26, 27, 28, 29, 30] (by decide) rfl
set_option maxRecDepth 100000 in
theorem XJ_5 {D : va_G} {cI cZ cW : ClassId} {Z Y : Nat → Nat → Nat} {e1 e2 : Nat} {S : Nat → CS} {a : AS} {H : Heap} {A : Nat → Prop} {H1 : Heap} {n0 : CS} (hP : va_P D classes (XW cI cZ cW Z Y e1 e2 S a) H) (hD : va_D A (XW cI cZ cW Z Y e1 e2 S a)) (hk1 : ∀ z : Nat, z < H.size → ¬ va_A (wW cI cZ (Z 5) (S 5)) H.size z → H1[z]? = H[z]?) (hB : va_P D classes (wW cI cZ (Z 5) n0) H1) : va_P D classes (XW cI cZ cW Z Y e1 e2 (va_up S 5 n0) a) H1 := (cj [26, 27, 28, 29, 30] (wW cI cZ (Z 5) (S 5)) (wW cI cZ (Z 5) n0) hP hD rfl rfl hk1 hB).1
set_option maxRecDepth 100000 in
theorem XP_3 {D : va_G} {cI cZ cW : ClassId} {Z Y : Nat → Nat → Nat} {e1 e2 : Nat} {S : Nat → CS} {a : AS} {H : Heap} (h : va_P D classes (XW cI cZ cW Z Y e1 e2 S a) H) : va_P D classes (wD cI cZ (Z 3) (S 3)) H := h.sub [15, 16, 17, 18, 19, 20] rfl
set_option maxRecDepth 100000 in
theorem XD_3 {cI cZ cW : ClassId} {Z Y : Nat → Nat → Nat} {e1 e2 : Nat} {S : Nat → CS} {a : AS} {A : Nat → Prop} (h : va_D A (XW cI cZ cW Z Y e1 e2 S a)) : va_D A (wD cI cZ (Z 3) (S 3)) := h.sub [15, 16, 17, 18, 19, 20] (by decide) rfl
set_option maxRecDepth 100000 in
theorem XJ_3 {D : va_G} {cI cZ cW : ClassId} {Z Y : Nat → Nat → Nat} {e1 e2 : Nat} {S : Nat → CS} {a : AS} {H : Heap} {A : Nat → Prop} {H1 : Heap} {n0 : CS} (hP : va_P D classes (XW cI cZ cW Z Y e1 e2 S a) H) (hD : va_D A (XW cI cZ cW Z Y e1 e2 S a)) (hk1 : ∀ z : Nat, z < H.size → ¬ va_A (wD cI cZ (Z 3) (S 3)) H.size z → H1[z]? = H[z]?) (hB : va_P D classes (wD cI cZ (Z 3) n0) H1) : va_P D classes (XW cI cZ cW Z Y e1 e2 (va_up S 3 n0) a) H1 := (cj [15, 16, 17, 18, 19, 20] (wD cI cZ (Z 3) (S 3)) (wD cI cZ (Z 3) n0) hP hD rfl rfl hk1 hB).1
set_option maxRecDepth 100000 in
theorem XP_k_4 {D : va_G} {cI cZ cW : ClassId} {Z Y : Nat → Nat → Nat} {e1 e2 : Nat} {S : Nat → CS} {a : AS} {H : Heap} {k : Nat} (hk : k = 7 ∨ k = 8) (h : va_P D classes (XW cI cZ cW Z Y e1 e2 S a) H) : va_P D classes (wW cI cZ (Z k) (S k) ++ wW cI cZ (Z 4) (S 4)) H := by
  rcases hk with rfl | rfl
  · exact h.sub [35, 36, 37, 38, 39, 21, 22, 23, 24, 25] rfl
  · exact h.sub [40, 41, 42, 43, 44, 21, 22, 23, 24, 25] rfl
set_option maxRecDepth 100000 in
theorem XD_k_4 {cI cZ cW : ClassId} {Z Y : Nat → Nat → Nat} {e1 e2 : Nat} {S : Nat → CS} {a : AS} {A : Nat → Prop} {k : Nat} (hk : k = 7 ∨ k = 8) (h : va_D A (XW cI cZ cW Z Y e1 e2 S a)) : va_D A (wW cI cZ (Z k) (S k) ++ wW cI cZ (Z 4) (S 4)) := by
  rcases hk with rfl | rfl
  · exact h.sub [35, 36, 37, 38, 39, 21, 22, 23, 24, 25] (by decide) rfl
  · exact h.sub [40, 41, 42, 43, 44, 21, 22, 23, 24, 25] (by decide) rfl
set_option maxRecDepth 100000 in
theorem XJ_k_4 {D : va_G} {cI cZ cW : ClassId} {Z Y : Nat → Nat → Nat} {e1 e2 : Nat} {S : Nat → CS} {a : AS} {H : Heap} {A : Nat → Prop} {H1 : Heap} {n0 : CS} {n1 : CS} {k : Nat} (hk : k = 7 ∨ k = 8) (hP : va_P D classes (XW cI cZ cW Z Y e1 e2 S a) H) (hD : va_D A (XW cI cZ cW Z Y e1 e2 S a)) (hk1 : ∀ z : Nat, z < H.size → ¬ va_A (wW cI cZ (Z k) (S k) ++ wW cI cZ (Z 4) (S 4)) H.size z → H1[z]? = H[z]?) (hB : va_P D classes (wW cI cZ (Z k) n0 ++ wW cI cZ (Z 4) n1) H1) : va_P D classes (XW cI cZ cW Z Y e1 e2 (va_up (va_up S k n0) 4 n1) a) H1 := by
  rcases hk with rfl | rfl
  · exact (cj [35, 36, 37, 38, 39, 21, 22, 23, 24, 25] (wW cI cZ (Z 7) (S 7) ++ wW cI cZ (Z 4) (S 4)) (wW cI cZ (Z 7) n0 ++ wW cI cZ (Z 4) n1) hP hD rfl rfl hk1 hB).1
  · exact (cj [40, 41, 42, 43, 44, 21, 22, 23, 24, 25] (wW cI cZ (Z 8) (S 8) ++ wW cI cZ (Z 4) (S 4)) (wW cI cZ (Z 8) n0 ++ wW cI cZ (Z 4) n1) hP hD rfl rfl hk1 hB).1
set_option maxRecDepth 100000 in
theorem XP_4_k {D : va_G} {cI cZ cW : ClassId} {Z Y : Nat → Nat → Nat} {e1 e2 : Nat} {S : Nat → CS} {a : AS} {H : Heap} {k : Nat} (hk : k = 7 ∨ k = 8) (h : va_P D classes (XW cI cZ cW Z Y e1 e2 S a) H) : va_P D classes (wW cI cZ (Z 4) (S 4) ++ wW cI cZ (Z k) (S k)) H := by
  rcases hk with rfl | rfl
  · exact h.sub [21, 22, 23, 24, 25, 35, 36, 37, 38, 39] rfl
  · exact h.sub [21, 22, 23, 24, 25, 40, 41, 42, 43, 44] rfl
set_option maxRecDepth 100000 in
theorem XD_4_k {cI cZ cW : ClassId} {Z Y : Nat → Nat → Nat} {e1 e2 : Nat} {S : Nat → CS} {a : AS} {A : Nat → Prop} {k : Nat} (hk : k = 7 ∨ k = 8) (h : va_D A (XW cI cZ cW Z Y e1 e2 S a)) : va_D A (wW cI cZ (Z 4) (S 4) ++ wW cI cZ (Z k) (S k)) := by
  rcases hk with rfl | rfl
  · exact h.sub [21, 22, 23, 24, 25, 35, 36, 37, 38, 39] (by decide) rfl
  · exact h.sub [21, 22, 23, 24, 25, 40, 41, 42, 43, 44] (by decide) rfl
set_option maxRecDepth 100000 in
theorem XJ_4_k {D : va_G} {cI cZ cW : ClassId} {Z Y : Nat → Nat → Nat} {e1 e2 : Nat} {S : Nat → CS} {a : AS} {H : Heap} {A : Nat → Prop} {H1 : Heap} {n0 : CS} {n1 : CS} {k : Nat} (hk : k = 7 ∨ k = 8) (hP : va_P D classes (XW cI cZ cW Z Y e1 e2 S a) H) (hD : va_D A (XW cI cZ cW Z Y e1 e2 S a)) (hk1 : ∀ z : Nat, z < H.size → ¬ va_A (wW cI cZ (Z 4) (S 4) ++ wW cI cZ (Z k) (S k)) H.size z → H1[z]? = H[z]?) (hB : va_P D classes (wW cI cZ (Z 4) n0 ++ wW cI cZ (Z k) n1) H1) : va_P D classes (XW cI cZ cW Z Y e1 e2 (va_up (va_up S 4 n0) k n1) a) H1 := by
  rcases hk with rfl | rfl
  · exact (cj [21, 22, 23, 24, 25, 35, 36, 37, 38, 39] (wW cI cZ (Z 4) (S 4) ++ wW cI cZ (Z 7) (S 7)) (wW cI cZ (Z 4) n0 ++ wW cI cZ (Z 7) n1) hP hD rfl rfl hk1 hB).1
  · exact (cj [21, 22, 23, 24, 25, 40, 41, 42, 43, 44] (wW cI cZ (Z 4) (S 4) ++ wW cI cZ (Z 8) (S 8)) (wW cI cZ (Z 4) n0 ++ wW cI cZ (Z 8) n1) hP hD rfl rfl hk1 hB).1
