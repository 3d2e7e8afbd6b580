theorem dX6_init_0 : decode cX6_init 0 = .ok (.aload_n 0, 1) := by decide +kernel
theorem dX6_init_1 : decode cX6_init 1 = .ok (.invokespecial 1, 3) := by decide +kernel
theorem dX6_init_4 : decode cX6_init 4 = .ok (.aload_n 0, 1) := by decide +kernel
theorem dX6_init_5 : decode cX6_init 5 = .ok (.bipush 48, 2) := by decide +kernel
theorem dX6_init_7 : decode cX6_init 7 = .ok (.newarray .int, 2) := by decide +kernel
theorem dX6_init_9 : decode cX6_init 9 = .ok (.putfield 9, 3) := by decide +kernel
theorem dX6_init_12 : decode cX6_init 12 = .ok (.aload_n 0, 1) := by decide +kernel
theorem dX6_init_13 : decode cX6_init 13 = .ok (.iconst 0, 1) := by decide +kernel
theorem dX6_init_14 : decode cX6_init 14 = .ok (.putfield 13, 3) := by decide +kernel
theorem dX6_init_17 : decode cX6_init 17 = .ok (.aload_n 0, 1) := by decide +kernel
theorem dX6_init_18 : decode cX6_init 18 = .ok (.new 17, 3) := by decide +kernel
theorem dX6_init_21 : decode cX6_init 21 = .ok (.dup, 1) := by decide +kernel
theorem dX6_init_22 : decode cX6_init 22 = .ok (.invokespecial 19, 3) := by decide +kernel
theorem dX6_init_25 : decode cX6_init 25 = .ok (.putfield 20, 3) := by decide +kernel
theorem dX6_init_28 : decode cX6_init 28 = .ok (.aload_n 0, 1) := by decide +kernel
theorem dX6_init_29 : decode cX6_init 29 = .ok (.new 17, 3) := by decide +kernel
theorem dX6_init_32 : decode cX6_init 32 = .ok (.dup, 1) := by decide +kernel
theorem dX6_init_33 : decode cX6_init 33 = .ok (.invokespecial 19, 3) := by decide +kernel
theorem dX6_init_36 : decode cX6_init 36 = .ok (.putfield 24, 3) := by decide +kernel
theorem dX6_init_39 : decode cX6_init 39 = .ok (.aload_n 0, 1) := by decide +kernel
theorem dX6_init_40 : decode cX6_init 40 = .ok (.new 17, 3) := by decide +kernel
theorem dX6_init_43 : decode cX6_init 43 = .ok (.dup, 1) := by decide +kernel
theorem dX6_init_44 : decode cX6_init 44 = .ok (.invokespecial 19, 3) := by decide +kernel
theorem dX6_init_47 : decode cX6_init 47 = .ok (.putfield 27, 3) := by decide +kernel
theorem dX6_init_50 : decode cX6_init 50 = .ok (.aload_n 0, 1) := by decide +kernel
theorem dX6_init_51 : decode cX6_init 51 = .ok (.new 30, 3) := by decide +kernel
theorem dX6_init_54 : decode cX6_init 54 = .ok (.dup, 1) := by decide +kernel
theorem dX6_init_55 : decode cX6_init 55 = .ok (.invokespecial 32, 3) := by decide +kernel
theorem dX6_init_58 : decode cX6_init 58 = .ok (.putfield 33, 3) := by decide +kernel
theorem dX6_init_61 : decode cX6_init 61 = .ok (.aload_n 0, 1) := by decide +kernel
theorem dX6_init_62 : decode cX6_init 62 = .ok (.new 30, 3) := by decide +kernel
theorem dX6_init_65 : decode cX6_init 65 = .ok (.dup, 1) := by decide +kernel
theorem dX6_init_66 : decode cX6_init 66 = .ok (.invokespecial 32, 3) := by decide +kernel
theorem dX6_init_69 : decode cX6_init 69 = .ok (.putfield 37, 3) := by decide +kernel
theorem dX6_init_72 : decode cX6_init 72 = .ok (.aload_n 0, 1) := by decide +kernel
theorem dX6_init_73 : decode cX6_init 73 = .ok (.new 40, 3) := by decide +kernel
theorem dX6_init_76 : decode cX6_init 76 = .ok (.dup, 1) := by decide +kernel
theorem dX6_init_77 : decode cX6_init 77 = .ok (.invokespecial 42, 3) := by decide +kernel
theorem dX6_init_80 : decode cX6_init 80 = .ok (.putfield 43, 3) := by decide +kernel
theorem dX6_init_83 : decode cX6_init 83 = .ok (.aload_n 0, 1) := by decide +kernel
theorem dX6_init_84 : decode cX6_init 84 = .ok (.iconst 2, 1) := by decide +kernel
theorem dX6_init_85 : decode cX6_init 85 = .ok (.anewarray 30, 3) := by decide +kernel
theorem dX6_init_88 : decode cX6_init 88 = .ok (.dup, 1) := by decide +kernel
theorem dX6_init_89 : decode cX6_init 89 = .ok (.iconst 0, 1) := by decide +kernel
theorem dX6_init_90 : decode cX6_init 90 = .ok (.new 30, 3) := by decide +kernel
theorem dX6_init_93 : decode cX6_init 93 = .ok (.dup, 1) := by decide +kernel
theorem dX6_init_94 : decode cX6_init 94 = .ok (.invokespecial 32, 3) := by decide +kernel
theorem dX6_init_97 : decode cX6_init 97 = .ok (.aastore, 1) := by decide +kernel
theorem dX6_init_98 : decode cX6_init 98 = .ok (.dup, 1) := by decide +kernel
theorem dX6_init_99 : decode cX6_init 99 = .ok (.iconst 1, 1) := by decide +kernel
theorem dX6_init_100 : decode cX6_init 100 = .ok (.new 30, 3) := by decide +kernel
theorem dX6_init_103 : decode cX6_init 103 = .ok (.dup, 1) := by decide +kernel
theorem dX6_init_104 : decode cX6_init 104 = .ok (.invokespecial 32, 3) := by decide +kernel
theorem dX6_init_107 : decode cX6_init 107 = .ok (.aastore, 1) := by decide +kernel
theorem dX6_init_108 : decode cX6_init 108 = .ok (.putfield 47, 3) := by decide +kernel
theorem dX6_init_111 : decode cX6_init 111 = .ok (.aload_n 0, 1) := by decide +kernel
theorem dX6_init_112 : decode cX6_init 112 = .ok (.iconst 0, 1) := by decide +kernel
theorem dX6_init_113 : decode cX6_init 113 = .ok (.putfield 51, 3) := by decide +kernel
theorem dX6_init_116 : decode cX6_init 116 = .ok (.aload_n 0, 1) := by decide +kernel
theorem dX6_init_117 : decode cX6_init 117 = .ok (.new 54, 3) := by decide +kernel
theorem dX6_init_120 : decode cX6_init 120 = .ok (.dup, 1) := by decide +kernel
theorem dX6_init_121 : decode cX6_init 121 = .ok (.invokespecial 56, 3) := by decide +kernel
theorem dX6_init_124 : decode cX6_init 124 = .ok (.putfield 57, 3) := by decide +kernel
theorem dX6_init_127 : decode cX6_init 127 = .ok (.aload_n 0, 1) := by decide +kernel
theorem dX6_init_128 : decode cX6_init 128 = .ok (.lconst 0, 1) := by decide +kernel
theorem dX6_init_129 : decode cX6_init 129 = .ok (.putfield 61, 3) := by decide +kernel
theorem dX6_init_132 : decode cX6_init 132 = .ok (.return_, 1) := by decide +kernel
def PWN (D : va_G) (cI cZ cW : ClassId) (As : List Value) (ws : va_W) (sz : Nat) : Array Value → State → Prop := va_Pc As (fun U => U.heap.size = sz ∧ va_P D classes ws U.heap ∧ va_K D classes (tyl cI cZ cW) U ∧ va_D (fun _ => True) ws ∧ va_AO "LetHoles$Wheel" U ∧ va_Nw (.methodLinkNest RX6 56 yX4_init "LetHoles") U)
theorem PWN_blind {D : va_G} {cI cZ cW : ClassId} {As : List Value} {ws : va_W} {sz : Nat} : FrameBlind (PWN D cI cZ cW As ws sz) := fun a U g mk q => ⟨q.1, q.2.1, q.2.2.1, va_K.moved (u := U) (U := U.calling g mk a) (Vm.Alike.refl U.vm) q.2.2.2.1, q.2.2.2.2.1, va_AO.moved (u := U) (U := U.calling g mk a) (Vm.Alike.refl U.vm) q.2.2.2.2.2.1, va_Nw.same rfl (u := U) (U := U.calling g mk a) rfl q.2.2.2.2.2.2⟩
theorem PWN_mk {D : va_G} {cI cZ cW : ClassId} {As : List Value} {ws : va_W} {A : Nat → Prop} {s U : State} {H : Heap} (hP : va_P D classes ws H) (hD : va_D A ws) (hK : va_K D classes (tyl cI cZ cW) s) (ho : va_AO "LetHoles$Wheel" s) (hn : va_Nw (.methodLinkNest RX6 56 yX4_init "LetHoles") s) (hU : U.heap = H) (hW : s.WarmedH U.vm) : PWN D cI cZ cW As ws H.size As.toArray U := ⟨rfl, by rw [hU], by rw [hU]; exact hP, va_K.moved hW.alike hK, hD.weaken (fun _ _ _ _ => trivial), va_AO.moved hW.alike ho, va_Nw.warmM hW hn⟩
set_option maxHeartbeats 8000000 in
set_option maxRecDepth 100000 in
theorem c_X6_init (l : Launch) (D : va_G) (cI cZ cW : ClassId) (sz a : Nat) : Met l yX6_init (wsA yX6_init cX6_init 1 none) ({ frames := 3, cells := 116, slots := 649, locals := 64 }) (PWN D cI cZ cW [.ref a] [(a, .inr (4, [.null, .int 0, .null, .null, .null, .null, .null, .null, .null, .int 0, .null, .long 0]))] sz) (va_Qv (fun u : (Nat → Nat → Nat) × (Nat → Nat → Nat) => a = u.1 0 0) (fun u t => va_P D classes (XW cI cZ cW u.1 u.2 (u.1 1 0) (u.1 2 0) S0 (a0 u.2)) t.heap ∧ va_D (va_A [(a, .inr (4, [.null, .int 0, .null, .null, .null, .null, .null, .null, .null, .int 0, .null, .long 0]))] sz) (XW cI cZ cW u.1 u.2 (u.1 1 0) (u.1 2 0) S0 (a0 u.2))) (va_A [(a, .inr (4, [.null, .int 0, .null, .null, .null, .null, .null, .null, .null, .int 0, .null, .long 0]))] sz)) 116 649 (va_A [(a, .inr (4, [.null, .int 0, .null, .null, .null, .null, .null, .null, .null, .int 0, .null, .long 0]))] sz) := by
  refine Met.ofW (cc := cX6_init) (maxL := 1) (ret := none) (by decide) rfl ?_
  intro p e s m args below meth c s₁ B hml hv
  obtain ⟨rfl, hsz, hP, hK, hD0, hover, hnest⟩ := hv
  have hx := B.exec
  have hb := B.bytes
  have hr := B.returns
  have hts := atoms_spec (ws := (wsA yX6_init cX6_init 1 none)) B.pre
  have ht : ∀ w ∈ lw_g, w.before _ s = true := fun w h => hts w (List.mem_cons_of_mem _ h)
  have hown : s.vm.findClass RX6 = some m.cls := findClass_of_methodNamed B.named
  have hlocks := B.notSynchronized
  have hin : meth.name = "<init>" := (name_of_methodNamed B.named B.method).1
  subst hsz
  have hD := hD0.self (sz := s.heap.size)
  generalize hAe : va_A [(a, .inr (4, [.null, .int 0, .null, .null, .null, .null, .null, .null, .null, .int 0, .null, .long 0]))] s.heap.size = A at hD ⊢
  have hA : ∀ q : Nat, s.heap.size ≤ q → A q := fun q h => by rw [← hAe]; exact Or.inr h
  have hS : va_S A s.heap s.heap [] := va_S.rf
  have hl := lv_entry ([.ref a]) (n := 1) (Nat.le_of_ble_eq_true rfl)
  rw [lg_entry_eq]
  generalize (lg_sl ([.ref a]) ++ List.replicate (1 - (lg_sl ([.ref a])).length) Slot.unset).toArray = ls at hl ⊢
  have hl : lv_has ls 1 [(0, .ref a)] := hl
  refine lv_aload_n hx hb dX6_init_0 rfl (lv_at hl 0 rfl) ?_
  refine W.objInit hx hb hown (ht _ tw_18) (ht _ tw_19) (ht _ tw_20) rfl (by rw [hml]; exact hl.1) rfl dX6_init_1 (Nat.le_of_ble_eq_true rfl) (Nat.le_of_ble_eq_true rfl) ?_
  refine W.eq (g2 := F0 m 4 ls []) rfl ?_
  refine lv_aload_n hx hb dX6_init_4 rfl (lv_at hl 0 rfl) ?_
  refine lv_bipush (v := (48 : Int32)) hx hb dX6_init_5 (by decide) ?_
  refine va_newI (N' := 48) hx hb (ht _ tw_83) hK hP hD hS hA (by decide) rfl (by decide) (Nat.le_of_ble_eq_true rfl) (Nat.le_of_ble_eq_true rfl) dX6_init_7 (fun q1 H hP hD hS => ?_)
  simp only [List.append_assoc, List.cons_append, List.nil_append] at hP hD
  have hP : va_P D classes ((a, .inr (4, [.null, .int 0, .null, .null, .null, .null, .null, .null, .null, .int 0, .null, .long 0])) :: ([(q1, .inl (cI, 48, .inl (fun _ => 0)))])) H := hP
  have hD : va_D A ((a, .inr (4, [.null, .int 0, .null, .null, .null, .null, .null, .null, .null, .int 0, .null, .long 0])) :: ([(q1, .inl (cI, 48, .inl (fun _ => 0)))])) := hD
  refine W.widen (k := 1) (n := 48) (by omega) (by omega) ?_
  refine W.eq (g2 := F0 m 9 ls [.ref q1, .ref a]) rfl ?_
  refine va_putF (D := D) (ci := 4) (v := .ref q1) (ty := (.array .int)) (C := RX6) (T := TX6) (N := 12) hx hb ht inX6 tyX6 tyX6_ok nmX6 hown hK hP hD hS 0 rfl rfl 0 (by decide) (ht _ tw_153) (fun _ h9 => h9) rfl hin rfl (by decide +kernel) rfl rfl (Nat.le_of_ble_eq_true rfl) dX6_init_9 (fun H locs hP hD hS => ?_)
  have hP : va_P D classes ((a, .inr (4, [.ref q1, .int 0, .null, .null, .null, .null, .null, .null, .null, .int 0, .null, .long 0])) :: ([(q1, .inl (cI, 48, .inl (fun _ => 0)))])) H := hP
  have hD : va_D A ((a, .inr (4, [.ref q1, .int 0, .null, .null, .null, .null, .null, .null, .null, .int 0, .null, .long 0])) :: ([(q1, .inl (cI, 48, .inl (fun _ => 0)))])) := hD
  refine W.eq (g2 := F0 m 12 ls []) rfl ?_
  refine lv_aload_n hx hb dX6_init_12 rfl (lv_at hl 0 rfl) ?_
  refine lv_iconst (v := (0 : Int32)) hx hb dX6_init_13 (by decide) ?_
  refine va_put (D := D) (ci := 4) (v := .int (0 : Int32)) (ty := .int) (C := RX6) (T := TX6) (N := 12) hx hb ht inX6 tyX6 tyX6_ok nmX6 hown hK hP hD hS 0 rfl rfl 1 (by decide) (ht _ tw_154) (fun _ h9 => h9) rfl (by decide +kernel) rfl rfl (Nat.le_of_ble_eq_true rfl) dX6_init_14 (fun H locs hP hD hS => ?_)
  have hP : va_P D classes ((a, .inr (4, [.ref q1, .int 0, .null, .null, .null, .null, .null, .null, .null, .int 0, .null, .long 0])) :: ([(q1, .inl (cI, 48, .inl (fun _ => 0)))])) H := hP
  have hD : va_D A ((a, .inr (4, [.ref q1, .int 0, .null, .null, .null, .null, .null, .null, .null, .int 0, .null, .long 0])) :: ([(q1, .inl (cI, 48, .inl (fun _ => 0)))])) := hD
  refine W.eq (g2 := F0 m 17 ls []) rfl ?_
  refine lv_aload_n hx hb dX6_init_17 rfl (lv_at hl 0 rfl) ?_
  refine va_new (ci := 1) (fs := [.int 0, .int 0, .null, .null, .null, .null, .null, .int 0, .int 0, .int 0, .int 0, .int 0, .int 0, .int 0]) (C := RX1) (T := TX1) (N := 14) hx hb ht inX1 tyX1 tyX1_ok hown (ht _ tw_21) (ht _ tw_22) (ht _ tw_2) hK hP hD hS hA rfl (fun j hj => by rcases (show j = 0 ∨ j = 1 ∨ j = 2 ∨ j = 3 ∨ j = 4 ∨ j = 5 ∨ j = 6 ∨ j = 7 ∨ j = 8 ∨ j = 9 ∨ j = 10 ∨ j = 11 ∨ j = 12 ∨ j = 13 by omega) with rfl | rfl | rfl | rfl | rfl | rfl | rfl | rfl | rfl | rfl | rfl | rfl | rfl | rfl <;> rfl) (Nat.le_of_ble_eq_true rfl) (Nat.le_of_ble_eq_true rfl) dX6_init_18 (fun q2 H hP hD hS => ?_)
  simp only [List.append_assoc, List.cons_append, List.nil_append] at hP hD
  have hP : va_P D classes ((a, .inr (4, [.ref q1, .int 0, .null, .null, .null, .null, .null, .null, .null, .int 0, .null, .long 0])) :: ([(q1, .inl (cI, 48, .inl (fun _ => 0)))] ++ ([(q2, .inr (1, [.int 0, .int 0, .null, .null, .null, .null, .null, .int 0, .int 0, .int 0, .int 0, .int 0, .int 0, .int 0]))]))) H := hP
  have hD : va_D A ((a, .inr (4, [.ref q1, .int 0, .null, .null, .null, .null, .null, .null, .null, .int 0, .null, .long 0])) :: ([(q1, .inl (cI, 48, .inl (fun _ => 0)))] ++ ([(q2, .inr (1, [.int 0, .int 0, .null, .null, .null, .null, .null, .int 0, .int 0, .int 0, .int 0, .int 0, .int 0, .int 0]))]))) := hD
  refine W.widen (k := 2) (n := 62) (by omega) (by omega) ?_
  refine W.eq (g2 := F0 m 21 ls [.ref q2, .ref a]) rfl ?_
  refine lv_dup hx hb dX6_init_21 rfl ?_
  have hPx : va_P D classes (((a, .inr (4, [.ref q1, .int 0, .null, .null, .null, .null, .null, .null, .null, .int 0, .null, .long 0])) :: ([(q1, .inl (cI, 48, .inl (fun _ => 0)))])) ++ [(q2, .inr (1, [.int 0, .int 0, .null, .null, .null, .null, .null, .int 0, .int 0, .int 0, .int 0, .int 0, .int 0, .int 0]))]) H := by simpa only [List.append_assoc, List.cons_append, List.nil_append] using hP
  have hDx : va_D A (((a, .inr (4, [.ref q1, .int 0, .null, .null, .null, .null, .null, .null, .null, .int 0, .null, .long 0])) :: ([(q1, .inl (cI, 48, .inl (fun _ => 0)))])) ++ [(q2, .inr (1, [.int 0, .int 0, .null, .null, .null, .null, .null, .int 0, .int 0, .int 0, .int 0, .int 0, .int 0, .int 0]))]) := by simpa only [List.append_assoc, List.cons_append, List.nil_append] using hD
  have hPc := P_suf hPx
  have hDc := D_suf hDx
  have hFc := va_freeX hDc hS hA
  refine va_callv (va_runI (As := []) (rest := [.ref q2, .ref a]) ⟨hx, hb, hml, hown, hts⟩ (c_X1_init l D cI cZ cW H.size q2) ⟨callB_of 0 hts (gA tw_25) rfl rfl rfl (ht _ tw_2) (ht _ tw_23) hd_X1_init ⟨Nat.le_of_ble_eq_true rfl, Nat.le_of_ble_eq_true rfl⟩, rfl, ht _ tw_24⟩ ⟨PW_blind, fun U hU hW => PW_mk hPc hDc hK hU hW⟩ rfl rfl hl.1 rfl (lv_room (Nat.le_of_ble_eq_true rfl)) dX6_init_22 ⟨Nat.le_of_ble_eq_true rfl, Nat.le_of_ble_eq_true rfl⟩) hS (fun q _ h => hFc q h) hFc (fun u t H1 locs ht1 hvm hf hB hz1 hk1 hS => ?_)
  obtain ⟨z3, rfl⟩ : ∃ z, z = u := ⟨_, rfl⟩
  obtain ⟨hB, hDB⟩ := hB
  rw [ht1] at hB
  obtain ⟨hPn, hDn⟩ := cjM hPx hDx hFc hk1 hB hDB
  clear hP hD hPx hDx hPc hDc hFc hk1 hB hDB
  subst hf
  have hP := hPn
  have hD := hDn
  clear hPn hDn
  generalize H1 = H at hP hS ⊢
  simp only [List.append_assoc, List.cons_append, List.nil_append] at hP hD
  have hP : va_P D classes ((a, .inr (4, [.ref q1, .int 0, .null, .null, .null, .null, .null, .null, .null, .int 0, .null, .long 0])) :: ([(q1, .inl (cI, 48, .inl (fun _ => 0)))] ++ (wD cI cZ z3 d0))) H := hP
  have hD : va_D A ((a, .inr (4, [.ref q1, .int 0, .null, .null, .null, .null, .null, .null, .null, .int 0, .null, .long 0])) :: ([(q1, .inl (cI, 48, .inl (fun _ => 0)))] ++ (wD cI cZ z3 d0))) := hD
  refine W.widen (k := 7) (n := 85) (by omega) (by omega) ?_
  refine W.eq (g2 := F0 m 25 ls [.ref (z3 0), .ref a]) rfl ?_
  refine va_put (D := D) (ci := 4) (v := .ref (z3 0)) (ty := (.object "LetHoles$Deeds")) (C := RX6) (T := TX6) (N := 12) hx hb ht inX6 tyX6 tyX6_ok nmX6 hown hK hP hD hS 0 rfl rfl 2 (by decide) (ht _ tw_155) (fun _ h9 => h9) rfl (by decide +kernel) rfl rfl (Nat.le_of_ble_eq_true rfl) dX6_init_25 (fun H locs hP hD hS => ?_)
  have hP : va_P D classes ((a, .inr (4, [.ref q1, .int 0, .ref (z3 0), .null, .null, .null, .null, .null, .null, .int 0, .null, .long 0])) :: ([(q1, .inl (cI, 48, .inl (fun _ => 0)))] ++ (wD cI cZ z3 d0))) H := hP
  have hD : va_D A ((a, .inr (4, [.ref q1, .int 0, .ref (z3 0), .null, .null, .null, .null, .null, .null, .int 0, .null, .long 0])) :: ([(q1, .inl (cI, 48, .inl (fun _ => 0)))] ++ (wD cI cZ z3 d0))) := hD
  refine W.eq (g2 := F0 m 28 ls []) rfl ?_
  refine lv_aload_n hx hb dX6_init_28 rfl (lv_at hl 0 rfl) ?_
  refine va_new (ci := 1) (fs := [.int 0, .int 0, .null, .null, .null, .null, .null, .int 0, .int 0, .int 0, .int 0, .int 0, .int 0, .int 0]) (C := RX1) (T := TX1) (N := 14) hx hb ht inX1 tyX1 tyX1_ok hown (ht _ tw_21) (ht _ tw_22) (ht _ tw_2) hK hP hD hS hA rfl (fun j hj => by rcases (show j = 0 ∨ j = 1 ∨ j = 2 ∨ j = 3 ∨ j = 4 ∨ j = 5 ∨ j = 6 ∨ j = 7 ∨ j = 8 ∨ j = 9 ∨ j = 10 ∨ j = 11 ∨ j = 12 ∨ j = 13 by omega) with rfl | rfl | rfl | rfl | rfl | rfl | rfl | rfl | rfl | rfl | rfl | rfl | rfl | rfl <;> rfl) (Nat.le_of_ble_eq_true rfl) (Nat.le_of_ble_eq_true rfl) dX6_init_29 (fun q4 H hP hD hS => ?_)
  simp only [List.append_assoc, List.cons_append, List.nil_append] at hP hD
  have hP : va_P D classes ((a, .inr (4, [.ref q1, .int 0, .ref (z3 0), .null, .null, .null, .null, .null, .null, .int 0, .null, .long 0])) :: ([(q1, .inl (cI, 48, .inl (fun _ => 0)))] ++ (wD cI cZ z3 d0 ++ ([(q4, .inr (1, [.int 0, .int 0, .null, .null, .null, .null, .null, .int 0, .int 0, .int 0, .int 0, .int 0, .int 0, .int 0]))])))) H := hP
  have hD : va_D A ((a, .inr (4, [.ref q1, .int 0, .ref (z3 0), .null, .null, .null, .null, .null, .null, .int 0, .null, .long 0])) :: ([(q1, .inl (cI, 48, .inl (fun _ => 0)))] ++ (wD cI cZ z3 d0 ++ ([(q4, .inr (1, [.int 0, .int 0, .null, .null, .null, .null, .null, .int 0, .int 0, .int 0, .int 0, .int 0, .int 0, .int 0]))])))) := hD
  refine W.widen (k := 8) (n := 99) (by omega) (by omega) ?_
  refine W.eq (g2 := F0 m 32 ls [.ref q4, .ref a]) rfl ?_
  refine lv_dup hx hb dX6_init_32 rfl ?_
  have hPx : va_P D classes (((a, .inr (4, [.ref q1, .int 0, .ref (z3 0), .null, .null, .null, .null, .null, .null, .int 0, .null, .long 0])) :: ([(q1, .inl (cI, 48, .inl (fun _ => 0)))] ++ (wD cI cZ z3 d0))) ++ [(q4, .inr (1, [.int 0, .int 0, .null, .null, .null, .null, .null, .int 0, .int 0, .int 0, .int 0, .int 0, .int 0, .int 0]))]) H := by simpa only [List.append_assoc, List.cons_append, List.nil_append] using hP
  have hDx : va_D A (((a, .inr (4, [.ref q1, .int 0, .ref (z3 0), .null, .null, .null, .null, .null, .null, .int 0, .null, .long 0])) :: ([(q1, .inl (cI, 48, .inl (fun _ => 0)))] ++ (wD cI cZ z3 d0))) ++ [(q4, .inr (1, [.int 0, .int 0, .null, .null, .null, .null, .null, .int 0, .int 0, .int 0, .int 0, .int 0, .int 0, .int 0]))]) := by simpa only [List.append_assoc, List.cons_append, List.nil_append] using hD
  have hPc := P_suf hPx
  have hDc := D_suf hDx
  have hFc := va_freeX hDc hS hA
  refine va_callv (va_runI (As := []) (rest := [.ref q4, .ref a]) ⟨hx, hb, hml, hown, hts⟩ (c_X1_init l D cI cZ cW H.size q4) ⟨callB_of 0 hts (gA tw_25) rfl rfl rfl (ht _ tw_2) (ht _ tw_23) hd_X1_init ⟨Nat.le_of_ble_eq_true rfl, Nat.le_of_ble_eq_true rfl⟩, rfl, ht _ tw_24⟩ ⟨PW_blind, fun U hU hW => PW_mk hPc hDc hK hU hW⟩ rfl rfl hl.1 rfl (lv_room (Nat.le_of_ble_eq_true rfl)) dX6_init_33 ⟨Nat.le_of_ble_eq_true rfl, Nat.le_of_ble_eq_true rfl⟩) hS (fun q _ h => hFc q h) hFc (fun u t H1 locs ht1 hvm hf hB hz1 hk1 hS => ?_)
  obtain ⟨z5, rfl⟩ : ∃ z, z = u := ⟨_, rfl⟩
  obtain ⟨hB, hDB⟩ := hB
  rw [ht1] at hB
  obtain ⟨hPn, hDn⟩ := cjM hPx hDx hFc hk1 hB hDB
  clear hP hD hPx hDx hPc hDc hFc hk1 hB hDB
  subst hf
  have hP := hPn
  have hD := hDn
  clear hPn hDn
  generalize H1 = H at hP hS ⊢
  simp only [List.append_assoc, List.cons_append, List.nil_append] at hP hD
  have hP : va_P D classes ((a, .inr (4, [.ref q1, .int 0, .ref (z3 0), .null, .null, .null, .null, .null, .null, .int 0, .null, .long 0])) :: ([(q1, .inl (cI, 48, .inl (fun _ => 0)))] ++ (wD cI cZ z3 d0 ++ (wD cI cZ z5 d0)))) H := hP
  have hD : va_D A ((a, .inr (4, [.ref q1, .int 0, .ref (z3 0), .null, .null, .null, .null, .null, .null, .int 0, .null, .long 0])) :: ([(q1, .inl (cI, 48, .inl (fun _ => 0)))] ++ (wD cI cZ z3 d0 ++ (wD cI cZ z5 d0)))) := hD
  refine W.widen (k := 13) (n := 122) (by omega) (by omega) ?_
  refine W.eq (g2 := F0 m 36 ls [.ref (z5 0), .ref a]) rfl ?_
  refine va_put (D := D) (ci := 4) (v := .ref (z5 0)) (ty := (.object "LetHoles$Deeds")) (C := RX6) (T := TX6) (N := 12) hx hb ht inX6 tyX6 tyX6_ok nmX6 hown hK hP hD hS 0 rfl rfl 3 (by decide) (ht _ tw_156) (fun _ h9 => h9) rfl (by decide +kernel) rfl rfl (Nat.le_of_ble_eq_true rfl) dX6_init_36 (fun H locs hP hD hS => ?_)
  have hP : va_P D classes ((a, .inr (4, [.ref q1, .int 0, .ref (z3 0), .ref (z5 0), .null, .null, .null, .null, .null, .int 0, .null, .long 0])) :: ([(q1, .inl (cI, 48, .inl (fun _ => 0)))] ++ (wD cI cZ z3 d0 ++ (wD cI cZ z5 d0)))) H := hP
  have hD : va_D A ((a, .inr (4, [.ref q1, .int 0, .ref (z3 0), .ref (z5 0), .null, .null, .null, .null, .null, .int 0, .null, .long 0])) :: ([(q1, .inl (cI, 48, .inl (fun _ => 0)))] ++ (wD cI cZ z3 d0 ++ (wD cI cZ z5 d0)))) := hD
  refine W.eq (g2 := F0 m 39 ls []) rfl ?_
  refine lv_aload_n hx hb dX6_init_39 rfl (lv_at hl 0 rfl) ?_
  refine va_new (ci := 1) (fs := [.int 0, .int 0, .null, .null, .null, .null, .null, .int 0, .int 0, .int 0, .int 0, .int 0, .int 0, .int 0]) (C := RX1) (T := TX1) (N := 14) hx hb ht inX1 tyX1 tyX1_ok hown (ht _ tw_21) (ht _ tw_22) (ht _ tw_2) hK hP hD hS hA rfl (fun j hj => by rcases (show j = 0 ∨ j = 1 ∨ j = 2 ∨ j = 3 ∨ j = 4 ∨ j = 5 ∨ j = 6 ∨ j = 7 ∨ j = 8 ∨ j = 9 ∨ j = 10 ∨ j = 11 ∨ j = 12 ∨ j = 13 by omega) with rfl | rfl | rfl | rfl | rfl | rfl | rfl | rfl | rfl | rfl | rfl | rfl | rfl | rfl <;> rfl) (Nat.le_of_ble_eq_true rfl) (Nat.le_of_ble_eq_true rfl) dX6_init_40 (fun q6 H hP hD hS => ?_)
  simp only [List.append_assoc, List.cons_append, List.nil_append] at hP hD
  have hP : va_P D classes ((a, .inr (4, [.ref q1, .int 0, .ref (z3 0), .ref (z5 0), .null, .null, .null, .null, .null, .int 0, .null, .long 0])) :: ([(q1, .inl (cI, 48, .inl (fun _ => 0)))] ++ (wD cI cZ z3 d0 ++ (wD cI cZ z5 d0 ++ ([(q6, .inr (1, [.int 0, .int 0, .null, .null, .null, .null, .null, .int 0, .int 0, .int 0, .int 0, .int 0, .int 0, .int 0]))]))))) H := hP
  have hD : va_D A ((a, .inr (4, [.ref q1, .int 0, .ref (z3 0), .ref (z5 0), .null, .null, .null, .null, .null, .int 0, .null, .long 0])) :: ([(q1, .inl (cI, 48, .inl (fun _ => 0)))] ++ (wD cI cZ z3 d0 ++ (wD cI cZ z5 d0 ++ ([(q6, .inr (1, [.int 0, .int 0, .null, .null, .null, .null, .null, .int 0, .int 0, .int 0, .int 0, .int 0, .int 0, .int 0]))]))))) := hD
  refine W.widen (k := 14) (n := 136) (by omega) (by omega) ?_
  refine W.eq (g2 := F0 m 43 ls [.ref q6, .ref a]) rfl ?_
  refine lv_dup hx hb dX6_init_43 rfl ?_
  have hPx : va_P D classes (((a, .inr (4, [.ref q1, .int 0, .ref (z3 0), .ref (z5 0), .null, .null, .null, .null, .null, .int 0, .null, .long 0])) :: ([(q1, .inl (cI, 48, .inl (fun _ => 0)))] ++ (wD cI cZ z3 d0 ++ (wD cI cZ z5 d0)))) ++ [(q6, .inr (1, [.int 0, .int 0, .null, .null, .null, .null, .null, .int 0, .int 0, .int 0, .int 0, .int 0, .int 0, .int 0]))]) H := by simpa only [List.append_assoc, List.cons_append, List.nil_append] using hP
  have hDx : va_D A (((a, .inr (4, [.ref q1, .int 0, .ref (z3 0), .ref (z5 0), .null, .null, .null, .null, .null, .int 0, .null, .long 0])) :: ([(q1, .inl (cI, 48, .inl (fun _ => 0)))] ++ (wD cI cZ z3 d0 ++ (wD cI cZ z5 d0)))) ++ [(q6, .inr (1, [.int 0, .int 0, .null, .null, .null, .null, .null, .int 0, .int 0, .int 0, .int 0, .int 0, .int 0, .int 0]))]) := by simpa only [List.append_assoc, List.cons_append, List.nil_append] using hD
  have hPc := P_suf hPx
  have hDc := D_suf hDx
  have hFc := va_freeX hDc hS hA
  refine va_callv (va_runI (As := []) (rest := [.ref q6, .ref a]) ⟨hx, hb, hml, hown, hts⟩ (c_X1_init l D cI cZ cW H.size q6) ⟨callB_of 0 hts (gA tw_25) rfl rfl rfl (ht _ tw_2) (ht _ tw_23) hd_X1_init ⟨Nat.le_of_ble_eq_true rfl, Nat.le_of_ble_eq_true rfl⟩, rfl, ht _ tw_24⟩ ⟨PW_blind, fun U hU hW => PW_mk hPc hDc hK hU hW⟩ rfl rfl hl.1 rfl (lv_room (Nat.le_of_ble_eq_true rfl)) dX6_init_44 ⟨Nat.le_of_ble_eq_true rfl, Nat.le_of_ble_eq_true rfl⟩) hS (fun q _ h => hFc q h) hFc (fun u t H1 locs ht1 hvm hf hB hz1 hk1 hS => ?_)
  obtain ⟨z7, rfl⟩ : ∃ z, z = u := ⟨_, rfl⟩
  obtain ⟨hB, hDB⟩ := hB
  rw [ht1] at hB
  obtain ⟨hPn, hDn⟩ := cjM hPx hDx hFc hk1 hB hDB
  clear hP hD hPx hDx hPc hDc hFc hk1 hB hDB
  subst hf
  have hP := hPn
  have hD := hDn
  clear hPn hDn
  generalize H1 = H at hP hS ⊢
  simp only [List.append_assoc, List.cons_append, List.nil_append] at hP hD
  have hP : va_P D classes ((a, .inr (4, [.ref q1, .int 0, .ref (z3 0), .ref (z5 0), .null, .null, .null, .null, .null, .int 0, .null, .long 0])) :: ([(q1, .inl (cI, 48, .inl (fun _ => 0)))] ++ (wD cI cZ z3 d0 ++ (wD cI cZ z5 d0 ++ (wD cI cZ z7 d0))))) H := hP
  have hD : va_D A ((a, .inr (4, [.ref q1, .int 0, .ref (z3 0), .ref (z5 0), .null, .null, .null, .null, .null, .int 0, .null, .long 0])) :: ([(q1, .inl (cI, 48, .inl (fun _ => 0)))] ++ (wD cI cZ z3 d0 ++ (wD cI cZ z5 d0 ++ (wD cI cZ z7 d0))))) := hD
  refine W.widen (k := 19) (n := 159) (by omega) (by omega) ?_
  refine W.eq (g2 := F0 m 47 ls [.ref (z7 0), .ref a]) rfl ?_
  refine va_putF (D := D) (ci := 4) (v := .ref (z7 0)) (ty := (.object "LetHoles$Deeds")) (C := RX6) (T := TX6) (N := 12) hx hb ht inX6 tyX6 tyX6_ok nmX6 hown hK hP hD hS 0 rfl rfl 4 (by decide) (ht _ tw_157) (fun _ h9 => h9) rfl hin rfl (by decide +kernel) rfl rfl (Nat.le_of_ble_eq_true rfl) dX6_init_47 (fun H locs hP hD hS => ?_)
  have hP : va_P D classes ((a, .inr (4, [.ref q1, .int 0, .ref (z3 0), .ref (z5 0), .ref (z7 0), .null, .null, .null, .null, .int 0, .null, .long 0])) :: ([(q1, .inl (cI, 48, .inl (fun _ => 0)))] ++ (wD cI cZ z3 d0 ++ (wD cI cZ z5 d0 ++ (wD cI cZ z7 d0))))) H := hP
  have hD : va_D A ((a, .inr (4, [.ref q1, .int 0, .ref (z3 0), .ref (z5 0), .ref (z7 0), .null, .null, .null, .null, .int 0, .null, .long 0])) :: ([(q1, .inl (cI, 48, .inl (fun _ => 0)))] ++ (wD cI cZ z3 d0 ++ (wD cI cZ z5 d0 ++ (wD cI cZ z7 d0))))) := hD
  refine W.eq (g2 := F0 m 50 ls []) rfl ?_
  refine lv_aload_n hx hb dX6_init_50 rfl (lv_at hl 0 rfl) ?_
  refine va_new (ci := 3) (fs := [.null, .null, .null, .null, .int 0, .int 0]) (C := RX5) (T := TX5) (N := 6) hx hb ht inX5 tyX5 tyX5_ok hown (ht _ tw_84) (ht _ tw_85) (ht _ tw_4) hK hP hD hS hA rfl (fun j hj => by rcases (show j = 0 ∨ j = 1 ∨ j = 2 ∨ j = 3 ∨ j = 4 ∨ j = 5 by omega) with rfl | rfl | rfl | rfl | rfl | rfl <;> rfl) (Nat.le_of_ble_eq_true rfl) (Nat.le_of_ble_eq_true rfl) dX6_init_51 (fun q8 H hP hD hS => ?_)
  simp only [List.append_assoc, List.cons_append, List.nil_append] at hP hD
  have hP : va_P D classes ((a, .inr (4, [.ref q1, .int 0, .ref (z3 0), .ref (z5 0), .ref (z7 0), .null, .null, .null, .null, .int 0, .null, .long 0])) :: ([(q1, .inl (cI, 48, .inl (fun _ => 0)))] ++ (wD cI cZ z3 d0 ++ (wD cI cZ z5 d0 ++ (wD cI cZ z7 d0 ++ ([(q8, .inr (3, [.null, .null, .null, .null, .int 0, .int 0]))])))))) H := hP
  have hD : va_D A ((a, .inr (4, [.ref q1, .int 0, .ref (z3 0), .ref (z5 0), .ref (z7 0), .null, .null, .null, .null, .int 0, .null, .long 0])) :: ([(q1, .inl (cI, 48, .inl (fun _ => 0)))] ++ (wD cI cZ z3 d0 ++ (wD cI cZ z5 d0 ++ (wD cI cZ z7 d0 ++ ([(q8, .inr (3, [.null, .null, .null, .null, .int 0, .int 0]))])))))) := hD
  refine W.widen (k := 20) (n := 165) (by omega) (by omega) ?_
  refine W.eq (g2 := F0 m 54 ls [.ref q8, .ref a]) rfl ?_
  refine lv_dup hx hb dX6_init_54 rfl ?_
  have hPx : va_P D classes (((a, .inr (4, [.ref q1, .int 0, .ref (z3 0), .ref (z5 0), .ref (z7 0), .null, .null, .null, .null, .int 0, .null, .long 0])) :: ([(q1, .inl (cI, 48, .inl (fun _ => 0)))] ++ (wD cI cZ z3 d0 ++ (wD cI cZ z5 d0 ++ (wD cI cZ z7 d0))))) ++ [(q8, .inr (3, [.null, .null, .null, .null, .int 0, .int 0]))]) H := by simpa only [List.append_assoc, List.cons_append, List.nil_append] using hP
  have hDx : va_D A (((a, .inr (4, [.ref q1, .int 0, .ref (z3 0), .ref (z5 0), .ref (z7 0), .null, .null, .null, .null, .int 0, .null, .long 0])) :: ([(q1, .inl (cI, 48, .inl (fun _ => 0)))] ++ (wD cI cZ z3 d0 ++ (wD cI cZ z5 d0 ++ (wD cI cZ z7 d0))))) ++ [(q8, .inr (3, [.null, .null, .null, .null, .int 0, .int 0]))]) := by simpa only [List.append_assoc, List.cons_append, List.nil_append] using hD
  have hPc := P_suf hPx
  have hDc := D_suf hDx
  have hFc := va_freeX hDc hS hA
  refine va_callv (va_runI (As := []) (rest := [.ref q8, .ref a]) ⟨hx, hb, hml, hown, hts⟩ (c_X5_init l D cI cZ cW H.size q8) ⟨callB_of 0 hts (gA tw_88) rfl rfl rfl (ht _ tw_4) (ht _ tw_86) hd_X5_init ⟨Nat.le_of_ble_eq_true rfl, Nat.le_of_ble_eq_true rfl⟩, rfl, ht _ tw_87⟩ ⟨PW_blind, fun U hU hW => PW_mk hPc hDc hK hU hW⟩ rfl rfl hl.1 rfl (lv_room (Nat.le_of_ble_eq_true rfl)) dX6_init_55 ⟨Nat.le_of_ble_eq_true rfl, Nat.le_of_ble_eq_true rfl⟩) hS (fun q _ h => hFc q h) hFc (fun u t H1 locs ht1 hvm hf hB hz1 hk1 hS => ?_)
  obtain ⟨z9, rfl⟩ : ∃ z, z = u := ⟨_, rfl⟩
  obtain ⟨hB, hDB⟩ := hB
  rw [ht1] at hB
  obtain ⟨hPn, hDn⟩ := cjM hPx hDx hFc hk1 hB hDB
  clear hP hD hPx hDx hPc hDc hFc hk1 hB hDB
  subst hf
  have hP := hPn
  have hD := hDn
  clear hPn hDn
  generalize H1 = H at hP hS ⊢
  simp only [List.append_assoc, List.cons_append, List.nil_append] at hP hD
  have hP : va_P D classes ((a, .inr (4, [.ref q1, .int 0, .ref (z3 0), .ref (z5 0), .ref (z7 0), .null, .null, .null, .null, .int 0, .null, .long 0])) :: ([(q1, .inl (cI, 48, .inl (fun _ => 0)))] ++ (wD cI cZ z3 d0 ++ (wD cI cZ z5 d0 ++ (wD cI cZ z7 d0 ++ (wW cI cZ z9 w0)))))) H := hP
  have hD : va_D A ((a, .inr (4, [.ref q1, .int 0, .ref (z3 0), .ref (z5 0), .ref (z7 0), .null, .null, .null, .null, .int 0, .null, .long 0])) :: ([(q1, .inl (cI, 48, .inl (fun _ => 0)))] ++ (wD cI cZ z3 d0 ++ (wD cI cZ z5 d0 ++ (wD cI cZ z7 d0 ++ (wW cI cZ z9 w0)))))) := hD
  refine W.widen (k := 24) (n := 184) (by omega) (by omega) ?_
  refine W.eq (g2 := F0 m 58 ls [.ref (z9 0), .ref a]) rfl ?_
  refine va_putF (D := D) (ci := 4) (v := .ref (z9 0)) (ty := (.object "LetHoles$Wheel")) (C := RX6) (T := TX6) (N := 12) hx hb ht inX6 tyX6 tyX6_ok nmX6 hown hK hP hD hS 0 rfl rfl 5 (by decide) (ht _ tw_158) (fun _ h9 => h9) rfl hin rfl (by decide +kernel) rfl rfl (Nat.le_of_ble_eq_true rfl) dX6_init_58 (fun H locs hP hD hS => ?_)
  have hP : va_P D classes ((a, .inr (4, [.ref q1, .int 0, .ref (z3 0), .ref (z5 0), .ref (z7 0), .ref (z9 0), .null, .null, .null, .int 0, .null, .long 0])) :: ([(q1, .inl (cI, 48, .inl (fun _ => 0)))] ++ (wD cI cZ z3 d0 ++ (wD cI cZ z5 d0 ++ (wD cI cZ z7 d0 ++ (wW cI cZ z9 w0)))))) H := hP
  have hD : va_D A ((a, .inr (4, [.ref q1, .int 0, .ref (z3 0), .ref (z5 0), .ref (z7 0), .ref (z9 0), .null, .null, .null, .int 0, .null, .long 0])) :: ([(q1, .inl (cI, 48, .inl (fun _ => 0)))] ++ (wD cI cZ z3 d0 ++ (wD cI cZ z5 d0 ++ (wD cI cZ z7 d0 ++ (wW cI cZ z9 w0)))))) := hD
  refine W.eq (g2 := F0 m 61 ls []) rfl ?_
  refine lv_aload_n hx hb dX6_init_61 rfl (lv_at hl 0 rfl) ?_
  refine va_new (ci := 3) (fs := [.null, .null, .null, .null, .int 0, .int 0]) (C := RX5) (T := TX5) (N := 6) hx hb ht inX5 tyX5 tyX5_ok hown (ht _ tw_84) (ht _ tw_85) (ht _ tw_4) hK hP hD hS hA rfl (fun j hj => by rcases (show j = 0 ∨ j = 1 ∨ j = 2 ∨ j = 3 ∨ j = 4 ∨ j = 5 by omega) with rfl | rfl | rfl | rfl | rfl | rfl <;> rfl) (Nat.le_of_ble_eq_true rfl) (Nat.le_of_ble_eq_true rfl) dX6_init_62 (fun q10 H hP hD hS => ?_)
  simp only [List.append_assoc, List.cons_append, List.nil_append] at hP hD
  have hP : va_P D classes ((a, .inr (4, [.ref q1, .int 0, .ref (z3 0), .ref (z5 0), .ref (z7 0), .ref (z9 0), .null, .null, .null, .int 0, .null, .long 0])) :: ([(q1, .inl (cI, 48, .inl (fun _ => 0)))] ++ (wD cI cZ z3 d0 ++ (wD cI cZ z5 d0 ++ (wD cI cZ z7 d0 ++ (wW cI cZ z9 w0 ++ ([(q10, .inr (3, [.null, .null, .null, .null, .int 0, .int 0]))]))))))) H := hP
  have hD : va_D A ((a, .inr (4, [.ref q1, .int 0, .ref (z3 0), .ref (z5 0), .ref (z7 0), .ref (z9 0), .null, .null, .null, .int 0, .null, .long 0])) :: ([(q1, .inl (cI, 48, .inl (fun _ => 0)))] ++ (wD cI cZ z3 d0 ++ (wD cI cZ z5 d0 ++ (wD cI cZ z7 d0 ++ (wW cI cZ z9 w0 ++ ([(q10, .inr (3, [.null, .null, .null, .null, .int 0, .int 0]))]))))))) := hD
  refine W.widen (k := 25) (n := 190) (by omega) (by omega) ?_
  refine W.eq (g2 := F0 m 65 ls [.ref q10, .ref a]) rfl ?_
  refine lv_dup hx hb dX6_init_65 rfl ?_
  have hPx : va_P D classes (((a, .inr (4, [.ref q1, .int 0, .ref (z3 0), .ref (z5 0), .ref (z7 0), .ref (z9 0), .null, .null, .null, .int 0, .null, .long 0])) :: ([(q1, .inl (cI, 48, .inl (fun _ => 0)))] ++ (wD cI cZ z3 d0 ++ (wD cI cZ z5 d0 ++ (wD cI cZ z7 d0 ++ (wW cI cZ z9 w0)))))) ++ [(q10, .inr (3, [.null, .null, .null, .null, .int 0, .int 0]))]) H := by simpa only [List.append_assoc, List.cons_append, List.nil_append] using hP
  have hDx : va_D A (((a, .inr (4, [.ref q1, .int 0, .ref (z3 0), .ref (z5 0), .ref (z7 0), .ref (z9 0), .null, .null, .null, .int 0, .null, .long 0])) :: ([(q1, .inl (cI, 48, .inl (fun _ => 0)))] ++ (wD cI cZ z3 d0 ++ (wD cI cZ z5 d0 ++ (wD cI cZ z7 d0 ++ (wW cI cZ z9 w0)))))) ++ [(q10, .inr (3, [.null, .null, .null, .null, .int 0, .int 0]))]) := by simpa only [List.append_assoc, List.cons_append, List.nil_append] using hD
  have hPc := P_suf hPx
  have hDc := D_suf hDx
  have hFc := va_freeX hDc hS hA
  refine va_callv (va_runI (As := []) (rest := [.ref q10, .ref a]) ⟨hx, hb, hml, hown, hts⟩ (c_X5_init l D cI cZ cW H.size q10) ⟨callB_of 0 hts (gA tw_88) rfl rfl rfl (ht _ tw_4) (ht _ tw_86) hd_X5_init ⟨Nat.le_of_ble_eq_true rfl, Nat.le_of_ble_eq_true rfl⟩, rfl, ht _ tw_87⟩ ⟨PW_blind, fun U hU hW => PW_mk hPc hDc hK hU hW⟩ rfl rfl hl.1 rfl (lv_room (Nat.le_of_ble_eq_true rfl)) dX6_init_66 ⟨Nat.le_of_ble_eq_true rfl, Nat.le_of_ble_eq_true rfl⟩) hS (fun q _ h => hFc q h) hFc (fun u t H1 locs ht1 hvm hf hB hz1 hk1 hS => ?_)
  obtain ⟨z11, rfl⟩ : ∃ z, z = u := ⟨_, rfl⟩
  obtain ⟨hB, hDB⟩ := hB
  rw [ht1] at hB
  obtain ⟨hPn, hDn⟩ := cjM hPx hDx hFc hk1 hB hDB
  clear hP hD hPx hDx hPc hDc hFc hk1 hB hDB
  subst hf
  have hP := hPn
  have hD := hDn
  clear hPn hDn
  generalize H1 = H at hP hS ⊢
  simp only [List.append_assoc, List.cons_append, List.nil_append] at hP hD
  have hP : va_P D classes ((a, .inr (4, [.ref q1, .int 0, .ref (z3 0), .ref (z5 0), .ref (z7 0), .ref (z9 0), .null, .null, .null, .int 0, .null, .long 0])) :: ([(q1, .inl (cI, 48, .inl (fun _ => 0)))] ++ (wD cI cZ z3 d0 ++ (wD cI cZ z5 d0 ++ (wD cI cZ z7 d0 ++ (wW cI cZ z9 w0 ++ (wW cI cZ z11 w0))))))) H := hP
  have hD : va_D A ((a, .inr (4, [.ref q1, .int 0, .ref (z3 0), .ref (z5 0), .ref (z7 0), .ref (z9 0), .null, .null, .null, .int 0, .null, .long 0])) :: ([(q1, .inl (cI, 48, .inl (fun _ => 0)))] ++ (wD cI cZ z3 d0 ++ (wD cI cZ z5 d0 ++ (wD cI cZ z7 d0 ++ (wW cI cZ z9 w0 ++ (wW cI cZ z11 w0))))))) := hD
  refine W.widen (k := 29) (n := 209) (by omega) (by omega) ?_
  refine W.eq (g2 := F0 m 69 ls [.ref (z11 0), .ref a]) rfl ?_
  refine va_putF (D := D) (ci := 4) (v := .ref (z11 0)) (ty := (.object "LetHoles$Wheel")) (C := RX6) (T := TX6) (N := 12) hx hb ht inX6 tyX6 tyX6_ok nmX6 hown hK hP hD hS 0 rfl rfl 6 (by decide) (ht _ tw_159) (fun _ h9 => h9) rfl hin rfl (by decide +kernel) rfl rfl (Nat.le_of_ble_eq_true rfl) dX6_init_69 (fun H locs hP hD hS => ?_)
  have hP : va_P D classes ((a, .inr (4, [.ref q1, .int 0, .ref (z3 0), .ref (z5 0), .ref (z7 0), .ref (z9 0), .ref (z11 0), .null, .null, .int 0, .null, .long 0])) :: ([(q1, .inl (cI, 48, .inl (fun _ => 0)))] ++ (wD cI cZ z3 d0 ++ (wD cI cZ z5 d0 ++ (wD cI cZ z7 d0 ++ (wW cI cZ z9 w0 ++ (wW cI cZ z11 w0))))))) H := hP
  have hD : va_D A ((a, .inr (4, [.ref q1, .int 0, .ref (z3 0), .ref (z5 0), .ref (z7 0), .ref (z9 0), .ref (z11 0), .null, .null, .int 0, .null, .long 0])) :: ([(q1, .inl (cI, 48, .inl (fun _ => 0)))] ++ (wD cI cZ z3 d0 ++ (wD cI cZ z5 d0 ++ (wD cI cZ z7 d0 ++ (wW cI cZ z9 w0 ++ (wW cI cZ z11 w0))))))) := hD
  refine W.eq (g2 := F0 m 72 ls []) rfl ?_
  refine lv_aload_n hx hb dX6_init_72 rfl (lv_at hl 0 rfl) ?_
  refine va_new (ci := 0) (fs := [.null, .int 0]) (C := RX0) (T := TX0) (N := 2) hx hb ht inX0 tyX0 tyX0_ok hown (ht _ tw_115) (ht _ tw_116) (ht _ tw_5) hK hP hD hS hA rfl (fun j hj => by rcases (show j = 0 ∨ j = 1 by omega) with rfl | rfl <;> rfl) (Nat.le_of_ble_eq_true rfl) (Nat.le_of_ble_eq_true rfl) dX6_init_73 (fun q12 H hP hD hS => ?_)
  simp only [List.append_assoc, List.cons_append, List.nil_append] at hP hD
  have hP : va_P D classes ((a, .inr (4, [.ref q1, .int 0, .ref (z3 0), .ref (z5 0), .ref (z7 0), .ref (z9 0), .ref (z11 0), .null, .null, .int 0, .null, .long 0])) :: ([(q1, .inl (cI, 48, .inl (fun _ => 0)))] ++ (wD cI cZ z3 d0 ++ (wD cI cZ z5 d0 ++ (wD cI cZ z7 d0 ++ (wW cI cZ z9 w0 ++ (wW cI cZ z11 w0 ++ ([(q12, .inr (0, [.null, .int 0]))])))))))) H := hP
  have hD : va_D A ((a, .inr (4, [.ref q1, .int 0, .ref (z3 0), .ref (z5 0), .ref (z7 0), .ref (z9 0), .ref (z11 0), .null, .null, .int 0, .null, .long 0])) :: ([(q1, .inl (cI, 48, .inl (fun _ => 0)))] ++ (wD cI cZ z3 d0 ++ (wD cI cZ z5 d0 ++ (wD cI cZ z7 d0 ++ (wW cI cZ z9 w0 ++ (wW cI cZ z11 w0 ++ ([(q12, .inr (0, [.null, .int 0]))])))))))) := hD
  refine W.widen (k := 30) (n := 211) (by omega) (by omega) ?_
  refine W.eq (g2 := F0 m 76 ls [.ref q12, .ref a]) rfl ?_
  refine lv_dup hx hb dX6_init_76 rfl ?_
  have hPx : va_P D classes (((a, .inr (4, [.ref q1, .int 0, .ref (z3 0), .ref (z5 0), .ref (z7 0), .ref (z9 0), .ref (z11 0), .null, .null, .int 0, .null, .long 0])) :: ([(q1, .inl (cI, 48, .inl (fun _ => 0)))] ++ (wD cI cZ z3 d0 ++ (wD cI cZ z5 d0 ++ (wD cI cZ z7 d0 ++ (wW cI cZ z9 w0 ++ (wW cI cZ z11 w0))))))) ++ [(q12, .inr (0, [.null, .int 0]))]) H := by simpa only [List.append_assoc, List.cons_append, List.nil_append] using hP
  have hDx : va_D A (((a, .inr (4, [.ref q1, .int 0, .ref (z3 0), .ref (z5 0), .ref (z7 0), .ref (z9 0), .ref (z11 0), .null, .null, .int 0, .null, .long 0])) :: ([(q1, .inl (cI, 48, .inl (fun _ => 0)))] ++ (wD cI cZ z3 d0 ++ (wD cI cZ z5 d0 ++ (wD cI cZ z7 d0 ++ (wW cI cZ z9 w0 ++ (wW cI cZ z11 w0))))))) ++ [(q12, .inr (0, [.null, .int 0]))]) := by simpa only [List.append_assoc, List.cons_append, List.nil_append] using hD
  have hPc := P_suf hPx
  have hDc := D_suf hDx
  have hFc := va_freeX hDc hS hA
  refine va_callv (va_runI (As := []) (rest := [.ref q12, .ref a]) ⟨hx, hb, hml, hown, hts⟩ (c_X0_init l D cI cZ cW H.size q12) ⟨callB_of 0 hts (gA tw_119) rfl rfl rfl (ht _ tw_5) (ht _ tw_117) hd_X0_init ⟨Nat.le_of_ble_eq_true rfl, Nat.le_of_ble_eq_true rfl⟩, rfl, ht _ tw_118⟩ ⟨PWO_blind, fun U hU hW => PWO_mk hPc hDc hK hover hU hW⟩ rfl rfl hl.1 rfl (lv_room (Nat.le_of_ble_eq_true rfl)) dX6_init_77 ⟨Nat.le_of_ble_eq_true rfl, Nat.le_of_ble_eq_true rfl⟩) hS (fun q _ h => hFc q h) hFc (fun u t H1 locs ht1 hvm hf hB hz1 hk1 hS => ?_)
  obtain ⟨z13, y14⟩ := u
  dsimp only at hf hB
  obtain ⟨hB, hDB⟩ := hB
  rw [ht1] at hB
  obtain ⟨hPn, hDn⟩ := cjM hPx hDx hFc hk1 hB hDB
  clear hP hD hPx hDx hPc hDc hFc hk1 hB hDB
  subst hf
  have hP := hPn
  have hD := hDn
  clear hPn hDn
  generalize H1 = H at hP hS ⊢
  simp only [List.append_assoc, List.cons_append, List.nil_append] at hP hD
  have hP : va_P D classes ((a, .inr (4, [.ref q1, .int 0, .ref (z3 0), .ref (z5 0), .ref (z7 0), .ref (z9 0), .ref (z11 0), .null, .null, .int 0, .null, .long 0])) :: ([(q1, .inl (cI, 48, .inl (fun _ => 0)))] ++ (wD cI cZ z3 d0 ++ (wD cI cZ z5 d0 ++ (wD cI cZ z7 d0 ++ (wW cI cZ z9 w0 ++ (wW cI cZ z11 w0 ++ (wA cI cZ cW z13 y14 (a0 y14))))))))) H := hP
  have hD : va_D A ((a, .inr (4, [.ref q1, .int 0, .ref (z3 0), .ref (z5 0), .ref (z7 0), .ref (z9 0), .ref (z11 0), .null, .null, .int 0, .null, .long 0])) :: ([(q1, .inl (cI, 48, .inl (fun _ => 0)))] ++ (wD cI cZ z3 d0 ++ (wD cI cZ z5 d0 ++ (wD cI cZ z7 d0 ++ (wW cI cZ z9 w0 ++ (wW cI cZ z11 w0 ++ (wA cI cZ cW z13 y14 (a0 y14))))))))) := hD
  refine W.widen (k := 101) (n := 575) (by omega) (by omega) ?_
  refine W.eq (g2 := F0 m 80 ls [.ref (z13 0), .ref a]) rfl ?_
  refine va_putF (D := D) (ci := 4) (v := .ref (z13 0)) (ty := (.object "LetHoles$Acts")) (C := RX6) (T := TX6) (N := 12) hx hb ht inX6 tyX6 tyX6_ok nmX6 hown hK hP hD hS 0 rfl rfl 7 (by decide) (ht _ tw_160) (fun _ h9 => h9) rfl hin rfl (by decide +kernel) rfl rfl (Nat.le_of_ble_eq_true rfl) dX6_init_80 (fun H locs hP hD hS => ?_)
  have hP : va_P D classes ((a, .inr (4, [.ref q1, .int 0, .ref (z3 0), .ref (z5 0), .ref (z7 0), .ref (z9 0), .ref (z11 0), .ref (z13 0), .null, .int 0, .null, .long 0])) :: ([(q1, .inl (cI, 48, .inl (fun _ => 0)))] ++ (wD cI cZ z3 d0 ++ (wD cI cZ z5 d0 ++ (wD cI cZ z7 d0 ++ (wW cI cZ z9 w0 ++ (wW cI cZ z11 w0 ++ (wA cI cZ cW z13 y14 (a0 y14))))))))) H := hP
  have hD : va_D A ((a, .inr (4, [.ref q1, .int 0, .ref (z3 0), .ref (z5 0), .ref (z7 0), .ref (z9 0), .ref (z11 0), .ref (z13 0), .null, .int 0, .null, .long 0])) :: ([(q1, .inl (cI, 48, .inl (fun _ => 0)))] ++ (wD cI cZ z3 d0 ++ (wD cI cZ z5 d0 ++ (wD cI cZ z7 d0 ++ (wW cI cZ z9 w0 ++ (wW cI cZ z11 w0 ++ (wA cI cZ cW z13 y14 (a0 y14))))))))) := hD
  refine W.eq (g2 := F0 m 83 ls []) rfl ?_
  refine lv_aload_n hx hb dX6_init_83 rfl (lv_at hl 0 rfl) ?_
  refine lv_iconst (v := (2 : Int32)) hx hb dX6_init_84 (by decide) ?_
  refine va_newW (N' := 2) hx hb hown (ht _ tw_84) hover hK hP hD hS hA (by decide) rfl (by decide) (Nat.le_of_ble_eq_true rfl) (Nat.le_of_ble_eq_true rfl) dX6_init_85 (fun q15 H hP hD hS => ?_)
  simp only [List.append_assoc, List.cons_append, List.nil_append] at hP hD
  have hP : va_P D classes ((a, .inr (4, [.ref q1, .int 0, .ref (z3 0), .ref (z5 0), .ref (z7 0), .ref (z9 0), .ref (z11 0), .ref (z13 0), .null, .int 0, .null, .long 0])) :: ([(q1, .inl (cI, 48, .inl (fun _ => 0)))] ++ (wD cI cZ z3 d0 ++ (wD cI cZ z5 d0 ++ (wD cI cZ z7 d0 ++ (wW cI cZ z9 w0 ++ (wW cI cZ z11 w0 ++ (wA cI cZ cW z13 y14 (a0 y14) ++ ([(q15, .inl (cW, 2, .inr (.inr (.inr (.inr (fun _ => none))))))]))))))))) H := hP
  have hD : va_D A ((a, .inr (4, [.ref q1, .int 0, .ref (z3 0), .ref (z5 0), .ref (z7 0), .ref (z9 0), .ref (z11 0), .ref (z13 0), .null, .int 0, .null, .long 0])) :: ([(q1, .inl (cI, 48, .inl (fun _ => 0)))] ++ (wD cI cZ z3 d0 ++ (wD cI cZ z5 d0 ++ (wD cI cZ z7 d0 ++ (wW cI cZ z9 w0 ++ (wW cI cZ z11 w0 ++ (wA cI cZ cW z13 y14 (a0 y14) ++ ([(q15, .inl (cW, 2, .inr (.inr (.inr (.inr (fun _ => none))))))]))))))))) := hD
  refine W.widen (k := 102) (n := 577) (by omega) (by omega) ?_
  refine W.eq (g2 := F0 m 88 ls [.ref q15, .ref a]) rfl ?_
  refine lv_dup hx hb dX6_init_88 rfl ?_
  refine lv_iconst (v := (0 : Int32)) hx hb dX6_init_89 (by decide) ?_
  refine va_new (ci := 3) (fs := [.null, .null, .null, .null, .int 0, .int 0]) (C := RX5) (T := TX5) (N := 6) hx hb ht inX5 tyX5 tyX5_ok hown (ht _ tw_84) (ht _ tw_85) (ht _ tw_4) hK hP hD hS hA rfl (fun j hj => by rcases (show j = 0 ∨ j = 1 ∨ j = 2 ∨ j = 3 ∨ j = 4 ∨ j = 5 by omega) with rfl | rfl | rfl | rfl | rfl | rfl <;> rfl) (Nat.le_of_ble_eq_true rfl) (Nat.le_of_ble_eq_true rfl) dX6_init_90 (fun q16 H hP hD hS => ?_)
  simp only [List.append_assoc, List.cons_append, List.nil_append] at hP hD
  have hP : va_P D classes ((a, .inr (4, [.ref q1, .int 0, .ref (z3 0), .ref (z5 0), .ref (z7 0), .ref (z9 0), .ref (z11 0), .ref (z13 0), .null, .int 0, .null, .long 0])) :: ([(q1, .inl (cI, 48, .inl (fun _ => 0)))] ++ (wD cI cZ z3 d0 ++ (wD cI cZ z5 d0 ++ (wD cI cZ z7 d0 ++ (wW cI cZ z9 w0 ++ (wW cI cZ z11 w0 ++ (wA cI cZ cW z13 y14 (a0 y14) ++ ([(q15, .inl (cW, 2, .inr (.inr (.inr (.inr (fun _ => none))))))] ++ ([(q16, .inr (3, [.null, .null, .null, .null, .int 0, .int 0]))])))))))))) H := hP
  have hD : va_D A ((a, .inr (4, [.ref q1, .int 0, .ref (z3 0), .ref (z5 0), .ref (z7 0), .ref (z9 0), .ref (z11 0), .ref (z13 0), .null, .int 0, .null, .long 0])) :: ([(q1, .inl (cI, 48, .inl (fun _ => 0)))] ++ (wD cI cZ z3 d0 ++ (wD cI cZ z5 d0 ++ (wD cI cZ z7 d0 ++ (wW cI cZ z9 w0 ++ (wW cI cZ z11 w0 ++ (wA cI cZ cW z13 y14 (a0 y14) ++ ([(q15, .inl (cW, 2, .inr (.inr (.inr (.inr (fun _ => none))))))] ++ ([(q16, .inr (3, [.null, .null, .null, .null, .int 0, .int 0]))])))))))))) := hD
  refine W.widen (k := 103) (n := 583) (by omega) (by omega) ?_
  refine W.eq (g2 := F0 m 93 ls [.ref q16, .int (0 : Int32), .ref q15, .ref q15, .ref a]) rfl ?_
  refine lv_dup hx hb dX6_init_93 rfl ?_
  have hPx : va_P D classes (((a, .inr (4, [.ref q1, .int 0, .ref (z3 0), .ref (z5 0), .ref (z7 0), .ref (z9 0), .ref (z11 0), .ref (z13 0), .null, .int 0, .null, .long 0])) :: ([(q1, .inl (cI, 48, .inl (fun _ => 0)))] ++ (wD cI cZ z3 d0 ++ (wD cI cZ z5 d0 ++ (wD cI cZ z7 d0 ++ (wW cI cZ z9 w0 ++ (wW cI cZ z11 w0 ++ (wA cI cZ cW z13 y14 (a0 y14) ++ ([(q15, .inl (cW, 2, .inr (.inr (.inr (.inr (fun _ => none))))))]))))))))) ++ [(q16, .inr (3, [.null, .null, .null, .null, .int 0, .int 0]))]) H := by simpa only [List.append_assoc, List.cons_append, List.nil_append] using hP
  have hDx : va_D A (((a, .inr (4, [.ref q1, .int 0, .ref (z3 0), .ref (z5 0), .ref (z7 0), .ref (z9 0), .ref (z11 0), .ref (z13 0), .null, .int 0, .null, .long 0])) :: ([(q1, .inl (cI, 48, .inl (fun _ => 0)))] ++ (wD cI cZ z3 d0 ++ (wD cI cZ z5 d0 ++ (wD cI cZ z7 d0 ++ (wW cI cZ z9 w0 ++ (wW cI cZ z11 w0 ++ (wA cI cZ cW z13 y14 (a0 y14) ++ ([(q15, .inl (cW, 2, .inr (.inr (.inr (.inr (fun _ => none))))))]))))))))) ++ [(q16, .inr (3, [.null, .null, .null, .null, .int 0, .int 0]))]) := by simpa only [List.append_assoc, List.cons_append, List.nil_append] using hD
  have hPc := P_suf hPx
  have hDc := D_suf hDx
  have hFc := va_freeX hDc hS hA
  refine va_callv (va_runI (As := []) (rest := [.ref q16, .int (0 : Int32), .ref q15, .ref q15, .ref a]) ⟨hx, hb, hml, hown, hts⟩ (c_X5_init l D cI cZ cW H.size q16) ⟨callB_of 0 hts (gA tw_88) rfl rfl rfl (ht _ tw_4) (ht _ tw_86) hd_X5_init ⟨Nat.le_of_ble_eq_true rfl, Nat.le_of_ble_eq_true rfl⟩, rfl, ht _ tw_87⟩ ⟨PW_blind, fun U hU hW => PW_mk hPc hDc hK hU hW⟩ rfl rfl hl.1 rfl (lv_room (Nat.le_of_ble_eq_true rfl)) dX6_init_94 ⟨Nat.le_of_ble_eq_true rfl, Nat.le_of_ble_eq_true rfl⟩) hS (fun q _ h => hFc q h) hFc (fun u t H1 locs ht1 hvm hf hB hz1 hk1 hS => ?_)
  obtain ⟨z17, rfl⟩ : ∃ z, z = u := ⟨_, rfl⟩
  obtain ⟨hB, hDB⟩ := hB
  rw [ht1] at hB
  obtain ⟨hPn, hDn⟩ := cjM hPx hDx hFc hk1 hB hDB
  clear hP hD hPx hDx hPc hDc hFc hk1 hB hDB
  subst hf
  have hP := hPn
  have hD := hDn
  clear hPn hDn
  generalize H1 = H at hP hS ⊢
  simp only [List.append_assoc, List.cons_append, List.nil_append] at hP hD
  have hP : va_P D classes ((a, .inr (4, [.ref q1, .int 0, .ref (z3 0), .ref (z5 0), .ref (z7 0), .ref (z9 0), .ref (z11 0), .ref (z13 0), .null, .int 0, .null, .long 0])) :: ([(q1, .inl (cI, 48, .inl (fun _ => 0)))] ++ (wD cI cZ z3 d0 ++ (wD cI cZ z5 d0 ++ (wD cI cZ z7 d0 ++ (wW cI cZ z9 w0 ++ (wW cI cZ z11 w0 ++ (wA cI cZ cW z13 y14 (a0 y14) ++ ([(q15, .inl (cW, 2, .inr (.inr (.inr (.inr (fun _ => none))))))] ++ (wW cI cZ z17 w0)))))))))) H := hP
  have hD : va_D A ((a, .inr (4, [.ref q1, .int 0, .ref (z3 0), .ref (z5 0), .ref (z7 0), .ref (z9 0), .ref (z11 0), .ref (z13 0), .null, .int 0, .null, .long 0])) :: ([(q1, .inl (cI, 48, .inl (fun _ => 0)))] ++ (wD cI cZ z3 d0 ++ (wD cI cZ z5 d0 ++ (wD cI cZ z7 d0 ++ (wW cI cZ z9 w0 ++ (wW cI cZ z11 w0 ++ (wA cI cZ cW z13 y14 (a0 y14) ++ ([(q15, .inl (cW, 2, .inr (.inr (.inr (.inr (fun _ => none))))))] ++ (wW cI cZ z17 w0)))))))))) := hD
  refine W.widen (k := 107) (n := 602) (by omega) (by omega) ?_
  refine W.eq (g2 := F0 m 97 ls [.ref (z17 0), .int (0 : Int32), .ref q15, .ref q15, .ref a]) rfl ?_
  refine va_astq hx hb hK hP hD hS 102 2 103 3 rfl rfl rfl rfl (by unfold vp_in; decide) dX6_init_97 (fun H locs hP hD hS => ?_)
  obtain ⟨f18, ef18⟩ : ∃ y : Nat → Option Nat, y = va_up (fun _ => none) ((0 : Int32)).toNatClampNeg (some (z17 0)) := ⟨_, rfl⟩
  have hP : va_P D classes ((a, .inr (4, [.ref q1, .int 0, .ref (z3 0), .ref (z5 0), .ref (z7 0), .ref (z9 0), .ref (z11 0), .ref (z13 0), .null, .int 0, .null, .long 0])) :: ([(q1, .inl (cI, 48, .inl (fun _ => 0)))] ++ (wD cI cZ z3 d0 ++ (wD cI cZ z5 d0 ++ (wD cI cZ z7 d0 ++ (wW cI cZ z9 w0 ++ (wW cI cZ z11 w0 ++ (wA cI cZ cW z13 y14 (a0 y14) ++ ([(q15, .inl (cW, 2, .inr (.inr (.inr (.inr f18)))))] ++ (wW cI cZ z17 w0)))))))))) H := by rw [ef18]; exact hP
  have hD : va_D A ((a, .inr (4, [.ref q1, .int 0, .ref (z3 0), .ref (z5 0), .ref (z7 0), .ref (z9 0), .ref (z11 0), .ref (z13 0), .null, .int 0, .null, .long 0])) :: ([(q1, .inl (cI, 48, .inl (fun _ => 0)))] ++ (wD cI cZ z3 d0 ++ (wD cI cZ z5 d0 ++ (wD cI cZ z7 d0 ++ (wW cI cZ z9 w0 ++ (wW cI cZ z11 w0 ++ (wA cI cZ cW z13 y14 (a0 y14) ++ ([(q15, .inl (cW, 2, .inr (.inr (.inr (.inr f18)))))] ++ (wW cI cZ z17 w0)))))))))) := by rw [ef18]; exact hD
  refine W.eq (g2 := F0 m 98 ls [.ref q15, .ref a]) rfl ?_
  refine lv_dup hx hb dX6_init_98 rfl ?_
  refine lv_iconst (v := (1 : Int32)) hx hb dX6_init_99 (by decide) ?_
  refine va_new (ci := 3) (fs := [.null, .null, .null, .null, .int 0, .int 0]) (C := RX5) (T := TX5) (N := 6) hx hb ht inX5 tyX5 tyX5_ok hown (ht _ tw_84) (ht _ tw_85) (ht _ tw_4) hK hP hD hS hA rfl (fun j hj => by rcases (show j = 0 ∨ j = 1 ∨ j = 2 ∨ j = 3 ∨ j = 4 ∨ j = 5 by omega) with rfl | rfl | rfl | rfl | rfl | rfl <;> rfl) (Nat.le_of_ble_eq_true rfl) (Nat.le_of_ble_eq_true rfl) dX6_init_100 (fun q19 H hP hD hS => ?_)
  simp only [List.append_assoc, List.cons_append, List.nil_append] at hP hD
  have hP : va_P D classes ((a, .inr (4, [.ref q1, .int 0, .ref (z3 0), .ref (z5 0), .ref (z7 0), .ref (z9 0), .ref (z11 0), .ref (z13 0), .null, .int 0, .null, .long 0])) :: ([(q1, .inl (cI, 48, .inl (fun _ => 0)))] ++ (wD cI cZ z3 d0 ++ (wD cI cZ z5 d0 ++ (wD cI cZ z7 d0 ++ (wW cI cZ z9 w0 ++ (wW cI cZ z11 w0 ++ (wA cI cZ cW z13 y14 (a0 y14) ++ ([(q15, .inl (cW, 2, .inr (.inr (.inr (.inr f18)))))] ++ (wW cI cZ z17 w0 ++ ([(q19, .inr (3, [.null, .null, .null, .null, .int 0, .int 0]))]))))))))))) H := hP
  have hD : va_D A ((a, .inr (4, [.ref q1, .int 0, .ref (z3 0), .ref (z5 0), .ref (z7 0), .ref (z9 0), .ref (z11 0), .ref (z13 0), .null, .int 0, .null, .long 0])) :: ([(q1, .inl (cI, 48, .inl (fun _ => 0)))] ++ (wD cI cZ z3 d0 ++ (wD cI cZ z5 d0 ++ (wD cI cZ z7 d0 ++ (wW cI cZ z9 w0 ++ (wW cI cZ z11 w0 ++ (wA cI cZ cW z13 y14 (a0 y14) ++ ([(q15, .inl (cW, 2, .inr (.inr (.inr (.inr f18)))))] ++ (wW cI cZ z17 w0 ++ ([(q19, .inr (3, [.null, .null, .null, .null, .int 0, .int 0]))]))))))))))) := hD
  refine W.widen (k := 108) (n := 608) (by omega) (by omega) ?_
  refine W.eq (g2 := F0 m 103 ls [.ref q19, .int (1 : Int32), .ref q15, .ref q15, .ref a]) rfl ?_
  refine lv_dup hx hb dX6_init_103 rfl ?_
  have hPx : va_P D classes (((a, .inr (4, [.ref q1, .int 0, .ref (z3 0), .ref (z5 0), .ref (z7 0), .ref (z9 0), .ref (z11 0), .ref (z13 0), .null, .int 0, .null, .long 0])) :: ([(q1, .inl (cI, 48, .inl (fun _ => 0)))] ++ (wD cI cZ z3 d0 ++ (wD cI cZ z5 d0 ++ (wD cI cZ z7 d0 ++ (wW cI cZ z9 w0 ++ (wW cI cZ z11 w0 ++ (wA cI cZ cW z13 y14 (a0 y14) ++ ([(q15, .inl (cW, 2, .inr (.inr (.inr (.inr f18)))))] ++ (wW cI cZ z17 w0)))))))))) ++ [(q19, .inr (3, [.null, .null, .null, .null, .int 0, .int 0]))]) H := by simpa only [List.append_assoc, List.cons_append, List.nil_append] using hP
  have hDx : va_D A (((a, .inr (4, [.ref q1, .int 0, .ref (z3 0), .ref (z5 0), .ref (z7 0), .ref (z9 0), .ref (z11 0), .ref (z13 0), .null, .int 0, .null, .long 0])) :: ([(q1, .inl (cI, 48, .inl (fun _ => 0)))] ++ (wD cI cZ z3 d0 ++ (wD cI cZ z5 d0 ++ (wD cI cZ z7 d0 ++ (wW cI cZ z9 w0 ++ (wW cI cZ z11 w0 ++ (wA cI cZ cW z13 y14 (a0 y14) ++ ([(q15, .inl (cW, 2, .inr (.inr (.inr (.inr f18)))))] ++ (wW cI cZ z17 w0)))))))))) ++ [(q19, .inr (3, [.null, .null, .null, .null, .int 0, .int 0]))]) := by simpa only [List.append_assoc, List.cons_append, List.nil_append] using hD
  have hPc := P_suf hPx
  have hDc := D_suf hDx
  have hFc := va_freeX hDc hS hA
  refine va_callv (va_runI (As := []) (rest := [.ref q19, .int (1 : Int32), .ref q15, .ref q15, .ref a]) ⟨hx, hb, hml, hown, hts⟩ (c_X5_init l D cI cZ cW H.size q19) ⟨callB_of 0 hts (gA tw_88) rfl rfl rfl (ht _ tw_4) (ht _ tw_86) hd_X5_init ⟨Nat.le_of_ble_eq_true rfl, Nat.le_of_ble_eq_true rfl⟩, rfl, ht _ tw_87⟩ ⟨PW_blind, fun U hU hW => PW_mk hPc hDc hK hU hW⟩ rfl rfl hl.1 rfl (lv_room (Nat.le_of_ble_eq_true rfl)) dX6_init_104 ⟨Nat.le_of_ble_eq_true rfl, Nat.le_of_ble_eq_true rfl⟩) hS (fun q _ h => hFc q h) hFc (fun u t H1 locs ht1 hvm hf hB hz1 hk1 hS => ?_)
  obtain ⟨z20, rfl⟩ : ∃ z, z = u := ⟨_, rfl⟩
  obtain ⟨hB, hDB⟩ := hB
  rw [ht1] at hB
  obtain ⟨hPn, hDn⟩ := cjM hPx hDx hFc hk1 hB hDB
  clear hP hD hPx hDx hPc hDc hFc hk1 hB hDB
  subst hf
  have hP := hPn
  have hD := hDn
  clear hPn hDn
  generalize H1 = H at hP hS ⊢
  simp only [List.append_assoc, List.cons_append, List.nil_append] at hP hD
  have hP : va_P D classes ((a, .inr (4, [.ref q1, .int 0, .ref (z3 0), .ref (z5 0), .ref (z7 0), .ref (z9 0), .ref (z11 0), .ref (z13 0), .null, .int 0, .null, .long 0])) :: ([(q1, .inl (cI, 48, .inl (fun _ => 0)))] ++ (wD cI cZ z3 d0 ++ (wD cI cZ z5 d0 ++ (wD cI cZ z7 d0 ++ (wW cI cZ z9 w0 ++ (wW cI cZ z11 w0 ++ (wA cI cZ cW z13 y14 (a0 y14) ++ ([(q15, .inl (cW, 2, .inr (.inr (.inr (.inr f18)))))] ++ (wW cI cZ z17 w0 ++ (wW cI cZ z20 w0))))))))))) H := hP
  have hD : va_D A ((a, .inr (4, [.ref q1, .int 0, .ref (z3 0), .ref (z5 0), .ref (z7 0), .ref (z9 0), .ref (z11 0), .ref (z13 0), .null, .int 0, .null, .long 0])) :: ([(q1, .inl (cI, 48, .inl (fun _ => 0)))] ++ (wD cI cZ z3 d0 ++ (wD cI cZ z5 d0 ++ (wD cI cZ z7 d0 ++ (wW cI cZ z9 w0 ++ (wW cI cZ z11 w0 ++ (wA cI cZ cW z13 y14 (a0 y14) ++ ([(q15, .inl (cW, 2, .inr (.inr (.inr (.inr f18)))))] ++ (wW cI cZ z17 w0 ++ (wW cI cZ z20 w0))))))))))) := hD
  refine W.widen (k := 112) (n := 627) (by omega) (by omega) ?_
  refine W.eq (g2 := F0 m 107 ls [.ref (z20 0), .int (1 : Int32), .ref q15, .ref q15, .ref a]) rfl ?_
  refine va_astq hx hb hK hP hD hS 102 2 108 3 rfl rfl rfl rfl (by unfold vp_in; decide) dX6_init_107 (fun H locs hP hD hS => ?_)
  obtain ⟨f21, ef21⟩ : ∃ y : Nat → Option Nat, y = va_up f18 ((1 : Int32)).toNatClampNeg (some (z20 0)) := ⟨_, rfl⟩
  have hP : va_P D classes ((a, .inr (4, [.ref q1, .int 0, .ref (z3 0), .ref (z5 0), .ref (z7 0), .ref (z9 0), .ref (z11 0), .ref (z13 0), .null, .int 0, .null, .long 0])) :: ([(q1, .inl (cI, 48, .inl (fun _ => 0)))] ++ (wD cI cZ z3 d0 ++ (wD cI cZ z5 d0 ++ (wD cI cZ z7 d0 ++ (wW cI cZ z9 w0 ++ (wW cI cZ z11 w0 ++ (wA cI cZ cW z13 y14 (a0 y14) ++ ([(q15, .inl (cW, 2, .inr (.inr (.inr (.inr f21)))))] ++ (wW cI cZ z17 w0 ++ (wW cI cZ z20 w0))))))))))) H := by rw [ef21]; exact hP
  have hD : va_D A ((a, .inr (4, [.ref q1, .int 0, .ref (z3 0), .ref (z5 0), .ref (z7 0), .ref (z9 0), .ref (z11 0), .ref (z13 0), .null, .int 0, .null, .long 0])) :: ([(q1, .inl (cI, 48, .inl (fun _ => 0)))] ++ (wD cI cZ z3 d0 ++ (wD cI cZ z5 d0 ++ (wD cI cZ z7 d0 ++ (wW cI cZ z9 w0 ++ (wW cI cZ z11 w0 ++ (wA cI cZ cW z13 y14 (a0 y14) ++ ([(q15, .inl (cW, 2, .inr (.inr (.inr (.inr f21)))))] ++ (wW cI cZ z17 w0 ++ (wW cI cZ z20 w0))))))))))) := by rw [ef21]; exact hD
  refine W.eq (g2 := F0 m 108 ls [.ref q15, .ref a]) rfl ?_
  refine va_putF (D := D) (ci := 4) (v := .ref q15) (ty := (.array (.object "LetHoles$Wheel"))) (C := RX6) (T := TX6) (N := 12) hx hb ht inX6 tyX6 tyX6_ok nmX6 hown hK hP hD hS 0 rfl rfl 8 (by decide) (ht _ tw_161) (fun _ h9 => h9) rfl hin rfl (by decide +kernel) rfl rfl (Nat.le_of_ble_eq_true rfl) dX6_init_108 (fun H locs hP hD hS => ?_)
  have hP : va_P D classes ((a, .inr (4, [.ref q1, .int 0, .ref (z3 0), .ref (z5 0), .ref (z7 0), .ref (z9 0), .ref (z11 0), .ref (z13 0), .ref q15, .int 0, .null, .long 0])) :: ([(q1, .inl (cI, 48, .inl (fun _ => 0)))] ++ (wD cI cZ z3 d0 ++ (wD cI cZ z5 d0 ++ (wD cI cZ z7 d0 ++ (wW cI cZ z9 w0 ++ (wW cI cZ z11 w0 ++ (wA cI cZ cW z13 y14 (a0 y14) ++ ([(q15, .inl (cW, 2, .inr (.inr (.inr (.inr f21)))))] ++ (wW cI cZ z17 w0 ++ (wW cI cZ z20 w0))))))))))) H := hP
  have hD : va_D A ((a, .inr (4, [.ref q1, .int 0, .ref (z3 0), .ref (z5 0), .ref (z7 0), .ref (z9 0), .ref (z11 0), .ref (z13 0), .ref q15, .int 0, .null, .long 0])) :: ([(q1, .inl (cI, 48, .inl (fun _ => 0)))] ++ (wD cI cZ z3 d0 ++ (wD cI cZ z5 d0 ++ (wD cI cZ z7 d0 ++ (wW cI cZ z9 w0 ++ (wW cI cZ z11 w0 ++ (wA cI cZ cW z13 y14 (a0 y14) ++ ([(q15, .inl (cW, 2, .inr (.inr (.inr (.inr f21)))))] ++ (wW cI cZ z17 w0 ++ (wW cI cZ z20 w0))))))))))) := hD
  refine W.eq (g2 := F0 m 111 ls []) rfl ?_
  refine lv_aload_n hx hb dX6_init_111 rfl (lv_at hl 0 rfl) ?_
  refine lv_iconst (v := (0 : Int32)) hx hb dX6_init_112 (by decide) ?_
  refine va_put (D := D) (ci := 4) (v := .int (0 : Int32)) (ty := .int) (C := RX6) (T := TX6) (N := 12) hx hb ht inX6 tyX6 tyX6_ok nmX6 hown hK hP hD hS 0 rfl rfl 9 (by decide) (ht _ tw_162) (fun _ h9 => h9) rfl (by decide +kernel) rfl rfl (Nat.le_of_ble_eq_true rfl) dX6_init_113 (fun H locs hP hD hS => ?_)
  have hP : va_P D classes ((a, .inr (4, [.ref q1, .int 0, .ref (z3 0), .ref (z5 0), .ref (z7 0), .ref (z9 0), .ref (z11 0), .ref (z13 0), .ref q15, .int 0, .null, .long 0])) :: ([(q1, .inl (cI, 48, .inl (fun _ => 0)))] ++ (wD cI cZ z3 d0 ++ (wD cI cZ z5 d0 ++ (wD cI cZ z7 d0 ++ (wW cI cZ z9 w0 ++ (wW cI cZ z11 w0 ++ (wA cI cZ cW z13 y14 (a0 y14) ++ ([(q15, .inl (cW, 2, .inr (.inr (.inr (.inr f21)))))] ++ (wW cI cZ z17 w0 ++ (wW cI cZ z20 w0))))))))))) H := hP
  have hD : va_D A ((a, .inr (4, [.ref q1, .int 0, .ref (z3 0), .ref (z5 0), .ref (z7 0), .ref (z9 0), .ref (z11 0), .ref (z13 0), .ref q15, .int 0, .null, .long 0])) :: ([(q1, .inl (cI, 48, .inl (fun _ => 0)))] ++ (wD cI cZ z3 d0 ++ (wD cI cZ z5 d0 ++ (wD cI cZ z7 d0 ++ (wW cI cZ z9 w0 ++ (wW cI cZ z11 w0 ++ (wA cI cZ cW z13 y14 (a0 y14) ++ ([(q15, .inl (cW, 2, .inr (.inr (.inr (.inr f21)))))] ++ (wW cI cZ z17 w0 ++ (wW cI cZ z20 w0))))))))))) := hD
  refine W.eq (g2 := F0 m 116 ls []) rfl ?_
  refine lv_aload_n hx hb dX6_init_116 rfl (lv_at hl 0 rfl) ?_
  refine va_new (ci := 2) (fs := [.null, .null, .null, .int 0]) (C := RX4) (T := TX4) (N := 4) hx hb ht inX4 tyX4 tyX4_ok hown (ht _ tw_132) (ht _ tw_133) (ht _ tw_6) hK hP hD hS hA rfl (fun j hj => by rcases (show j = 0 ∨ j = 1 ∨ j = 2 ∨ j = 3 by omega) with rfl | rfl | rfl | rfl <;> rfl) (Nat.le_of_ble_eq_true rfl) (Nat.le_of_ble_eq_true rfl) dX6_init_117 (fun q22 H hP hD hS => ?_)
  simp only [List.append_assoc, List.cons_append, List.nil_append] at hP hD
  have hP : va_P D classes ((a, .inr (4, [.ref q1, .int 0, .ref (z3 0), .ref (z5 0), .ref (z7 0), .ref (z9 0), .ref (z11 0), .ref (z13 0), .ref q15, .int 0, .null, .long 0])) :: ([(q1, .inl (cI, 48, .inl (fun _ => 0)))] ++ (wD cI cZ z3 d0 ++ (wD cI cZ z5 d0 ++ (wD cI cZ z7 d0 ++ (wW cI cZ z9 w0 ++ (wW cI cZ z11 w0 ++ (wA cI cZ cW z13 y14 (a0 y14) ++ ([(q15, .inl (cW, 2, .inr (.inr (.inr (.inr f21)))))] ++ (wW cI cZ z17 w0 ++ (wW cI cZ z20 w0 ++ ([(q22, .inr (2, [.null, .null, .null, .int 0]))])))))))))))) H := hP
  have hD : va_D A ((a, .inr (4, [.ref q1, .int 0, .ref (z3 0), .ref (z5 0), .ref (z7 0), .ref (z9 0), .ref (z11 0), .ref (z13 0), .ref q15, .int 0, .null, .long 0])) :: ([(q1, .inl (cI, 48, .inl (fun _ => 0)))] ++ (wD cI cZ z3 d0 ++ (wD cI cZ z5 d0 ++ (wD cI cZ z7 d0 ++ (wW cI cZ z9 w0 ++ (wW cI cZ z11 w0 ++ (wA cI cZ cW z13 y14 (a0 y14) ++ ([(q15, .inl (cW, 2, .inr (.inr (.inr (.inr f21)))))] ++ (wW cI cZ z17 w0 ++ (wW cI cZ z20 w0 ++ ([(q22, .inr (2, [.null, .null, .null, .int 0]))])))))))))))) := hD
  refine W.widen (k := 113) (n := 631) (by omega) (by omega) ?_
  refine W.eq (g2 := F0 m 120 ls [.ref q22, .ref a]) rfl ?_
  refine lv_dup hx hb dX6_init_120 rfl ?_
  have hPx : va_P D classes (((a, .inr (4, [.ref q1, .int 0, .ref (z3 0), .ref (z5 0), .ref (z7 0), .ref (z9 0), .ref (z11 0), .ref (z13 0), .ref q15, .int 0, .null, .long 0])) :: ([(q1, .inl (cI, 48, .inl (fun _ => 0)))] ++ (wD cI cZ z3 d0 ++ (wD cI cZ z5 d0 ++ (wD cI cZ z7 d0 ++ (wW cI cZ z9 w0 ++ (wW cI cZ z11 w0 ++ (wA cI cZ cW z13 y14 (a0 y14) ++ ([(q15, .inl (cW, 2, .inr (.inr (.inr (.inr f21)))))] ++ (wW cI cZ z17 w0 ++ (wW cI cZ z20 w0))))))))))) ++ [(q22, .inr (2, [.null, .null, .null, .int 0]))]) H := by simpa only [List.append_assoc, List.cons_append, List.nil_append] using hP
  have hDx : va_D A (((a, .inr (4, [.ref q1, .int 0, .ref (z3 0), .ref (z5 0), .ref (z7 0), .ref (z9 0), .ref (z11 0), .ref (z13 0), .ref q15, .int 0, .null, .long 0])) :: ([(q1, .inl (cI, 48, .inl (fun _ => 0)))] ++ (wD cI cZ z3 d0 ++ (wD cI cZ z5 d0 ++ (wD cI cZ z7 d0 ++ (wW cI cZ z9 w0 ++ (wW cI cZ z11 w0 ++ (wA cI cZ cW z13 y14 (a0 y14) ++ ([(q15, .inl (cW, 2, .inr (.inr (.inr (.inr f21)))))] ++ (wW cI cZ z17 w0 ++ (wW cI cZ z20 w0))))))))))) ++ [(q22, .inr (2, [.null, .null, .null, .int 0]))]) := by simpa only [List.append_assoc, List.cons_append, List.nil_append] using hD
  have hPc := P_suf hPx
  have hDc := D_suf hDx
  have hFc := va_freeX hDc hS hA
  refine va_callv (va_runIN (As := []) (rest := [.ref q22, .ref a]) ⟨hx, hb, hml, hown, hts⟩ (c_X4_init l D cI cZ cW H.size q22) ⟨va_cnB 0 hts (gA tw_136) rfl rfl rfl hnest (ht _ tw_6) hd_X4_init ⟨Nat.le_of_ble_eq_true rfl, Nat.le_of_ble_eq_true rfl⟩, rfl, ht _ tw_135⟩ ⟨PW_blind, fun U hU hW => PW_mk hPc hDc hK hU hW⟩ rfl rfl hl.1 rfl (lv_room (Nat.le_of_ble_eq_true rfl)) dX6_init_121 ⟨Nat.le_of_ble_eq_true rfl, Nat.le_of_ble_eq_true rfl⟩) hS (fun q _ h => hFc q h) hFc (fun u t H1 locs ht1 hvm hf hB hz1 hk1 hS => ?_)
  obtain ⟨z23, rfl⟩ : ∃ z, z = u := ⟨_, rfl⟩
  obtain ⟨hB, hDB⟩ := hB
  rw [ht1] at hB
  obtain ⟨hPn, hDn⟩ := cjM hPx hDx hFc hk1 hB hDB
  clear hP hD hPx hDx hPc hDc hFc hk1 hB hDB
  subst hf
  have hP := hPn
  have hD := hDn
  clear hPn hDn
  generalize H1 = H at hP hS ⊢
  simp only [List.append_assoc, List.cons_append, List.nil_append] at hP hD
  have hP : va_P D classes ((a, .inr (4, [.ref q1, .int 0, .ref (z3 0), .ref (z5 0), .ref (z7 0), .ref (z9 0), .ref (z11 0), .ref (z13 0), .ref q15, .int 0, .null, .long 0])) :: ([(q1, .inl (cI, 48, .inl (fun _ => 0)))] ++ (wD cI cZ z3 d0 ++ (wD cI cZ z5 d0 ++ (wD cI cZ z7 d0 ++ (wW cI cZ z9 w0 ++ (wW cI cZ z11 w0 ++ (wA cI cZ cW z13 y14 (a0 y14) ++ ([(q15, .inl (cW, 2, .inr (.inr (.inr (.inr f21)))))] ++ (wW cI cZ z17 w0 ++ (wW cI cZ z20 w0 ++ (wT cI cZ z23 t0)))))))))))) H := hP
  have hD : va_D A ((a, .inr (4, [.ref q1, .int 0, .ref (z3 0), .ref (z5 0), .ref (z7 0), .ref (z9 0), .ref (z11 0), .ref (z13 0), .ref q15, .int 0, .null, .long 0])) :: ([(q1, .inl (cI, 48, .inl (fun _ => 0)))] ++ (wD cI cZ z3 d0 ++ (wD cI cZ z5 d0 ++ (wD cI cZ z7 d0 ++ (wW cI cZ z9 w0 ++ (wW cI cZ z11 w0 ++ (wA cI cZ cW z13 y14 (a0 y14) ++ ([(q15, .inl (cW, 2, .inr (.inr (.inr (.inr f21)))))] ++ (wW cI cZ z17 w0 ++ (wW cI cZ z20 w0 ++ (wT cI cZ z23 t0)))))))))))) := hD
  refine W.widen (k := 116) (n := 649) (by omega) (by omega) ?_
  refine W.eq (g2 := F0 m 124 ls [.ref (z23 0), .ref a]) rfl ?_
  refine va_putF (D := D) (ci := 4) (v := .ref (z23 0)) (ty := (.object "LetHoles$Tasted")) (C := RX6) (T := TX6) (N := 12) hx hb ht inX6 tyX6 tyX6_ok nmX6 hown hK hP hD hS 0 rfl rfl 10 (by decide) (ht _ tw_163) (fun _ h9 => h9) rfl hin rfl (by decide +kernel) rfl rfl (Nat.le_of_ble_eq_true rfl) dX6_init_124 (fun H locs hP hD hS => ?_)
  have hP : va_P D classes ((a, .inr (4, [.ref q1, .int 0, .ref (z3 0), .ref (z5 0), .ref (z7 0), .ref (z9 0), .ref (z11 0), .ref (z13 0), .ref q15, .int 0, .ref (z23 0), .long 0])) :: ([(q1, .inl (cI, 48, .inl (fun _ => 0)))] ++ (wD cI cZ z3 d0 ++ (wD cI cZ z5 d0 ++ (wD cI cZ z7 d0 ++ (wW cI cZ z9 w0 ++ (wW cI cZ z11 w0 ++ (wA cI cZ cW z13 y14 (a0 y14) ++ ([(q15, .inl (cW, 2, .inr (.inr (.inr (.inr f21)))))] ++ (wW cI cZ z17 w0 ++ (wW cI cZ z20 w0 ++ (wT cI cZ z23 t0)))))))))))) H := hP
  have hD : va_D A ((a, .inr (4, [.ref q1, .int 0, .ref (z3 0), .ref (z5 0), .ref (z7 0), .ref (z9 0), .ref (z11 0), .ref (z13 0), .ref q15, .int 0, .ref (z23 0), .long 0])) :: ([(q1, .inl (cI, 48, .inl (fun _ => 0)))] ++ (wD cI cZ z3 d0 ++ (wD cI cZ z5 d0 ++ (wD cI cZ z7 d0 ++ (wW cI cZ z9 w0 ++ (wW cI cZ z11 w0 ++ (wA cI cZ cW z13 y14 (a0 y14) ++ ([(q15, .inl (cW, 2, .inr (.inr (.inr (.inr f21)))))] ++ (wW cI cZ z17 w0 ++ (wW cI cZ z20 w0 ++ (wT cI cZ z23 t0)))))))))))) := hD
  refine W.eq (g2 := F0 m 127 ls []) rfl ?_
  refine lv_aload_n hx hb dX6_init_127 rfl (lv_at hl 0 rfl) ?_
  refine lv_lconst (v := (0 : Int64)) hx hb dX6_init_128 (by decide) ?_
  refine va_put (D := D) (ci := 4) (v := .long (0 : Int64)) (ty := .long) (C := RX6) (T := TX6) (N := 12) hx hb ht inX6 tyX6 tyX6_ok nmX6 hown hK hP hD hS 0 rfl rfl 11 (by decide) (ht _ tw_164) (fun _ h9 => h9) rfl (by decide +kernel) rfl rfl (Nat.le_of_ble_eq_true rfl) dX6_init_129 (fun H locs hP hD hS => ?_)
  have hP : va_P D classes ((a, .inr (4, [.ref q1, .int 0, .ref (z3 0), .ref (z5 0), .ref (z7 0), .ref (z9 0), .ref (z11 0), .ref (z13 0), .ref q15, .int 0, .ref (z23 0), .long 0])) :: ([(q1, .inl (cI, 48, .inl (fun _ => 0)))] ++ (wD cI cZ z3 d0 ++ (wD cI cZ z5 d0 ++ (wD cI cZ z7 d0 ++ (wW cI cZ z9 w0 ++ (wW cI cZ z11 w0 ++ (wA cI cZ cW z13 y14 (a0 y14) ++ ([(q15, .inl (cW, 2, .inr (.inr (.inr (.inr f21)))))] ++ (wW cI cZ z17 w0 ++ (wW cI cZ z20 w0 ++ (wT cI cZ z23 t0)))))))))))) H := hP
  have hD : va_D A ((a, .inr (4, [.ref q1, .int 0, .ref (z3 0), .ref (z5 0), .ref (z7 0), .ref (z9 0), .ref (z11 0), .ref (z13 0), .ref q15, .int 0, .ref (z23 0), .long 0])) :: ([(q1, .inl (cI, 48, .inl (fun _ => 0)))] ++ (wD cI cZ z3 d0 ++ (wD cI cZ z5 d0 ++ (wD cI cZ z7 d0 ++ (wW cI cZ z9 w0 ++ (wW cI cZ z11 w0 ++ (wA cI cZ cW z13 y14 (a0 y14) ++ ([(q15, .inl (cW, 2, .inr (.inr (.inr (.inr f21)))))] ++ (wW cI cZ z17 w0 ++ (wW cI cZ z20 w0 ++ (wT cI cZ z23 t0)))))))))))) := hD
  refine W.eq (g2 := F0 m 132 ls []) rfl ?_
  have hh : ∀ k, k < 2 → f21 k = slF (fun k => if k = 0 then (fun k => if k = 0 then a else if k = 1 then q1 else q15) else if k = 1 then z3 else if k = 2 then z5 else if k = 3 then z7 else if k = 4 then z9 else if k = 5 then z11 else if k = 6 then z23 else if k = 7 then z17 else if k = 8 then z20 else z13) k := by
    intro k hk
    subst ef21 ef18
    rcases (show k = 0 ∨ k = 1 by omega) with rfl | rfl <;> rfl
  have hPy : va_P D classes (((a, .inr (4, [.ref q1, .int 0, .ref (z3 0), .ref (z5 0), .ref (z7 0), .ref (z9 0), .ref (z11 0), .ref (z13 0), .ref q15, .int 0, .ref (z23 0), .long 0])) :: ([(q1, .inl (cI, 48, .inl (fun _ => 0)))] ++ (wD cI cZ z3 d0 ++ (wD cI cZ z5 d0 ++ (wD cI cZ z7 d0 ++ (wW cI cZ z9 w0 ++ (wW cI cZ z11 w0 ++ (wA cI cZ cW z13 y14 (a0 y14))))))))) ++ (q15, .inl (cW, 2, .inr (.inr (.inr (.inr f21))))) :: (wW cI cZ z17 w0 ++ (wW cI cZ z20 w0 ++ (wT cI cZ z23 t0)))) H := by simpa only [List.append_assoc, List.cons_append, List.nil_append] using hP
  have hP := P_cell (cell_q cW hh) hPy
  clear hPy
  have hP : va_P D classes (XW cI cZ cW (fun k => if k = 0 then (fun k => if k = 0 then a else if k = 1 then q1 else q15) else if k = 1 then z3 else if k = 2 then z5 else if k = 3 then z7 else if k = 4 then z9 else if k = 5 then z11 else if k = 6 then z23 else if k = 7 then z17 else if k = 8 then z20 else z13) y14 ((fun k => if k = 0 then (fun k => if k = 0 then a else if k = 1 then q1 else q15) else if k = 1 then z3 else if k = 2 then z5 else if k = 3 then z7 else if k = 4 then z9 else if k = 5 then z11 else if k = 6 then z23 else if k = 7 then z17 else if k = 8 then z20 else z13) 1 0) ((fun k => if k = 0 then (fun k => if k = 0 then a else if k = 1 then q1 else q15) else if k = 1 then z3 else if k = 2 then z5 else if k = 3 then z7 else if k = 4 then z9 else if k = 5 then z11 else if k = 6 then z23 else if k = 7 then z17 else if k = 8 then z20 else z13) 2 0) S0 (a0 y14)) H := hP.sub [0, 1, 102, 2, 3, 4, 5, 6, 7, 8, 9, 10, 11, 12, 13, 14, 15, 16, 17, 18, 19, 20, 21, 22, 23, 24, 25, 26, 27, 28, 29, 113, 114, 115, 116, 103, 104, 105, 106, 107, 108, 109, 110, 111, 112, 30, 31, 32, 33, 34, 35, 36, 37, 38, 39, 40, 41, 42, 43, 44, 45, 46, 47, 48, 49, 50, 51, 52, 53, 54, 55, 56, 57, 58, 59, 60, 61, 62, 63, 64, 65, 66, 67, 68, 69, 70, 71, 72, 73, 74, 75, 76, 77, 78, 79, 80, 81, 82, 83, 84, 85, 86, 87, 88, 89, 90, 91, 92, 93, 94, 95, 96, 97, 98, 99, 100, 101] rfl
  have hD : va_D A (XW cI cZ cW (fun k => if k = 0 then (fun k => if k = 0 then a else if k = 1 then q1 else q15) else if k = 1 then z3 else if k = 2 then z5 else if k = 3 then z7 else if k = 4 then z9 else if k = 5 then z11 else if k = 6 then z23 else if k = 7 then z17 else if k = 8 then z20 else z13) y14 ((fun k => if k = 0 then (fun k => if k = 0 then a else if k = 1 then q1 else q15) else if k = 1 then z3 else if k = 2 then z5 else if k = 3 then z7 else if k = 4 then z9 else if k = 5 then z11 else if k = 6 then z23 else if k = 7 then z17 else if k = 8 then z20 else z13) 1 0) ((fun k => if k = 0 then (fun k => if k = 0 then a else if k = 1 then q1 else q15) else if k = 1 then z3 else if k = 2 then z5 else if k = 3 then z7 else if k = 4 then z9 else if k = 5 then z11 else if k = 6 then z23 else if k = 7 then z17 else if k = 8 then z20 else z13) 2 0) S0 (a0 y14)) := D_perm hD [0, 1, 102, 2, 3, 4, 5, 6, 7, 8, 9, 10, 11, 12, 13, 14, 15, 16, 17, 18, 19, 20, 21, 22, 23, 24, 25, 26, 27, 28, 29, 113, 114, 115, 116, 103, 104, 105, 106, 107, 108, 109, 110, 111, 112, 30, 31, 32, 33, 34, 35, 36, 37, 38, 39, 40, 41, 42, 43, 44, 45, 46, 47, 48, 49, 50, 51, 52, 53, 54, 55, 56, 57, 58, 59, 60, 61, 62, 63, 64, 65, 66, 67, 68, 69, 70, 71, 72, 73, 74, 75, 76, 77, 78, 79, 80, 81, 82, 83, 84, 85, 86, 87, 88, 89, 90, 91, 92, 93, 94, 95, 96, 97, 98, 99, 100, 101] (by decide) rfl
  exact W.vret hx hb hr (fun t ht hW => ⟨⟨((fun k => if k = 0 then (fun k => if k = 0 then a else if k = 1 then q1 else q15) else if k = 1 then z3 else if k = 2 then z5 else if k = 3 then z7 else if k = 4 then z9 else if k = 5 then z11 else if k = 6 then z23 else if k = 7 then z17 else if k = 8 then z20 else z13), y14), rfl, rfl, P_heap ht hP, hD⟩, hS.F ht⟩) hS.2.2 dX6_init_132
