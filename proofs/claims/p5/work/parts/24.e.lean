theorem dX0_init_0 : decode cX0_init 0 = .ok (.aload_n 0, 1) := by decide +kernel
theorem dX0_init_1 : decode cX0_init 1 = .ok (.invokespecial 3, 3) := by decide +kernel
theorem dX0_init_4 : decode cX0_init 4 = .ok (.aload_n 0, 1) := by decide +kernel
theorem dX0_init_5 : decode cX0_init 5 = .ok (.bipush 14, 2) := by decide +kernel
theorem dX0_init_7 : decode cX0_init 7 = .ok (.anewarray 9, 3) := by decide +kernel
theorem dX0_init_10 : decode cX0_init 10 = .ok (.putfield 11, 3) := by decide +kernel
theorem dX0_init_13 : decode cX0_init 13 = .ok (.aload_n 0, 1) := by decide +kernel
theorem dX0_init_14 : decode cX0_init 14 = .ok (.iconst 0, 1) := by decide +kernel
theorem dX0_init_15 : decode cX0_init 15 = .ok (.putfield 17, 3) := by decide +kernel
theorem dX0_init_18 : decode cX0_init 18 = .ok (.iconst 0, 1) := by decide +kernel
theorem dX0_init_19 : decode cX0_init 19 = .ok (.istore_n 1, 1) := by decide +kernel
theorem dX0_init_20 : decode cX0_init 20 = .ok (.iload_n 1, 1) := by decide +kernel
theorem dX0_init_21 : decode cX0_init 21 = .ok (.bipush 14, 2) := by decide +kernel
theorem dX0_init_23 : decode cX0_init 23 = .ok (.if_icmp .ge 22, 3) := by decide +kernel
theorem dX0_init_26 : decode cX0_init 26 = .ok (.aload_n 0, 1) := by decide +kernel
theorem dX0_init_27 : decode cX0_init 27 = .ok (.getfield 11, 3) := by decide +kernel
theorem dX0_init_30 : decode cX0_init 30 = .ok (.iload_n 1, 1) := by decide +kernel
theorem dX0_init_31 : decode cX0_init 31 = .ok (.new 9, 3) := by decide +kernel
theorem dX0_init_34 : decode cX0_init 34 = .ok (.dup, 1) := by decide +kernel
theorem dX0_init_35 : decode cX0_init 35 = .ok (.invokespecial 21, 3) := by decide +kernel
theorem dX0_init_38 : decode cX0_init 38 = .ok (.aastore, 1) := by decide +kernel
theorem dX0_init_39 : decode cX0_init 39 = .ok (.iinc 1 1, 3) := by decide +kernel
theorem dX0_init_42 : decode cX0_init 42 = .ok (.goto (-22), 3) := by decide +kernel
theorem dX0_init_45 : decode cX0_init 45 = .ok (.return_, 1) := by decide +kernel
set_option maxHeartbeats 8000000 in
set_option maxRecDepth 100000 in
theorem c_X0_init (l : Launch) (D : va_G) (cI cZ cW : ClassId) (sz a : Nat) : Met l yX0_init (wsA yX0_init cX0_init 2 none) ({ frames := 2, cells := 71, slots := 364, locals := 43 }) (PWO D cI cZ cW [.ref a] [(a, .inr (0, [.null, .int 0]))] sz) (va_Qv (fun u : (Nat → Nat) × (Nat → Nat → Nat) => a = u.1 0) (fun u t => va_P D classes (wA cI cZ cW u.1 u.2 (a0 u.2)) t.heap ∧ va_D (va_A [(a, .inr (0, [.null, .int 0]))] sz) (wA cI cZ cW u.1 u.2 (a0 u.2))) (va_A [(a, .inr (0, [.null, .int 0]))] sz)) 71 364 (va_A [(a, .inr (0, [.null, .int 0]))] sz) := by
  refine Met.ofW (cc := cX0_init) (maxL := 2) (ret := none) (by decide) rfl ?_
  intro p e s m args below meth c s₁ B hml hv
  obtain ⟨rfl, hsz, hP, hK, hD0, hover⟩ := hv
  have hx := B.exec
  have hb := B.bytes
  have hr := B.returns
  have hts := atoms_spec (ws := (wsA yX0_init cX0_init 2 none)) B.pre
  have ht : ∀ w ∈ lw_g, w.before _ s = true := fun w h => hts w (List.mem_cons_of_mem _ h)
  have hown : s.vm.findClass RX0 = some m.cls := findClass_of_methodNamed B.named
  have hlocks := B.notSynchronized
  have hin : meth.name = "<init>" := (name_of_methodNamed B.named B.method).1
  subst hsz
  have hD := hD0.self (sz := s.heap.size)
  generalize hAe : va_A [(a, .inr (0, [.null, .int 0]))] s.heap.size = A at hD ⊢
  have hA : ∀ q : Nat, s.heap.size ≤ q → A q := fun q h => by rw [← hAe]; exact Or.inr h
  have hS : va_S A s.heap s.heap [] := va_S.rf
  have hl := lv_entry ([.ref a]) (n := 2) (Nat.le_of_ble_eq_true rfl)
  rw [lg_entry_eq]
  generalize (lg_sl ([.ref a]) ++ List.replicate (2 - (lg_sl ([.ref a])).length) Slot.unset).toArray = ls at hl ⊢
  have hl : lv_has ls 2 [(0, .ref a)] := hl
  refine lv_aload_n hx hb dX0_init_0 rfl (lv_at hl 0 rfl) ?_
  refine W.objInit hx hb hown (ht _ tw_120) (ht _ tw_19) (ht _ tw_20) rfl (by rw [hml]; exact hl.1) rfl dX0_init_1 (Nat.le_of_ble_eq_true rfl) (Nat.le_of_ble_eq_true rfl) ?_
  refine W.eq (g2 := F0 m 4 ls []) rfl ?_
  refine lv_aload_n hx hb dX0_init_4 rfl (lv_at hl 0 rfl) ?_
  refine lv_bipush (v := (14 : Int32)) hx hb dX0_init_5 (by decide) ?_
  refine va_newW (N' := 14) hx hb hown (ht _ tw_121) hover hK hP hD hS hA (by decide) rfl (by decide) (Nat.le_of_ble_eq_true rfl) (Nat.le_of_ble_eq_true rfl) dX0_init_7 (fun q1 H hP hD hS => ?_)
  simp only [List.append_assoc, List.cons_append, List.nil_append] at hP hD
  have hP : va_P D classes ((a, .inr (0, [.null, .int 0])) :: ([(q1, .inl (cW, 14, .inr (.inr (.inr (.inr (fun _ => none))))))])) H := hP
  have hD : va_D A ((a, .inr (0, [.null, .int 0])) :: ([(q1, .inl (cW, 14, .inr (.inr (.inr (.inr (fun _ => none))))))])) := hD
  refine W.widen (k := 1) (n := 14) (by omega) (by omega) ?_
  refine W.eq (g2 := F0 m 10 ls [.ref q1, .ref a]) rfl ?_
  refine va_putF (D := D) (ci := 0) (v := .ref q1) (ty := (.array (.object "LetHoles$Wheel"))) (C := RX0) (T := TX0) (N := 2) hx hb ht inX0 tyX0 tyX0_ok nmX0 hown hK hP hD hS 0 rfl rfl 0 (by decide) (ht _ tw_124) (fun _ h9 => h9) rfl hin rfl (by decide +kernel) rfl rfl (Nat.le_of_ble_eq_true rfl) dX0_init_10 (fun H locs hP hD hS => ?_)
  have hP : va_P D classes ((a, .inr (0, [.ref q1, .int 0])) :: ([(q1, .inl (cW, 14, .inr (.inr (.inr (.inr (fun _ => none))))))])) H := hP
  have hD : va_D A ((a, .inr (0, [.ref q1, .int 0])) :: ([(q1, .inl (cW, 14, .inr (.inr (.inr (.inr (fun _ => none))))))])) := hD
  refine W.eq (g2 := F0 m 13 ls []) rfl ?_
  refine lv_aload_n hx hb dX0_init_13 rfl (lv_at hl 0 rfl) ?_
  refine lv_iconst (v := (0 : Int32)) hx hb dX0_init_14 (by decide) ?_
  refine va_put (D := D) (ci := 0) (v := .int (0 : Int32)) (ty := .int) (C := RX0) (T := TX0) (N := 2) hx hb ht inX0 tyX0 tyX0_ok nmX0 hown hK hP hD hS 0 rfl rfl 1 (by decide) (ht _ tw_125) (fun _ h9 => h9) rfl (by decide +kernel) rfl rfl (Nat.le_of_ble_eq_true rfl) dX0_init_15 (fun H locs hP hD hS => ?_)
  have hP : va_P D classes ((a, .inr (0, [.ref q1, .int 0])) :: ([(q1, .inl (cW, 14, .inr (.inr (.inr (.inr (fun _ => none))))))])) H := hP
  have hD : va_D A ((a, .inr (0, [.ref q1, .int 0])) :: ([(q1, .inl (cW, 14, .inr (.inr (.inr (.inr (fun _ => none))))))])) := hD
  refine W.eq (g2 := F0 m 18 ls []) rfl ?_
  refine lv_iconst (v := (0 : Int32)) hx hb dX0_init_18 (by decide) ?_
  refine lv_istore_n (lv' := [(1, .int (0 : Int32)), (0, .ref a)]) hx hb dX0_init_19 rfl hl (by decide) rfl (fun ls hl => ?_)
  refine lv_iload_n hx hb dX0_init_20 rfl (lv_at hl 0 rfl) ?_
  refine lv_bipush (v := (14 : Int32)) hx hb dX0_init_21 (by decide) ?_
  refine lv_icmp_ge (tgt := 45) hx hb dX0_init_23 (by decide) (fun h => absurd h (by decide)) (fun _ => ?_)
  refine lv_aload_n hx hb dX0_init_26 rfl (lv_at hl 1 rfl) ?_
  refine va_get (D := D) (ci := 0) (v := .ref q1) (C := RX0) (T := TX0) (N := 2) hx hb ht inX0 hown hK hP 0 rfl rfl 0 (by decide) (ht _ tw_124) (fun _ h9 => h9) rfl dX0_init_27 ?_
  refine lv_iload_n hx hb dX0_init_30 rfl (lv_at hl 0 rfl) ?_
  refine va_new (ci := 3) (fs := [.null, .null, .null, .null, .int 0, .int 0]) (C := RX5) (T := TX5) (N := 6) hx hb ht inX5 tyX5 tyX5_ok hown (ht _ tw_121) (ht _ tw_85) (ht _ tw_4) hK hP hD hS hA rfl (fun j hj => by rcases (show j = 0 ∨ j = 1 ∨ j = 2 ∨ j = 3 ∨ j = 4 ∨ j = 5 by omega) with rfl | rfl | rfl | rfl | rfl | rfl <;> rfl) (Nat.le_of_ble_eq_true rfl) (Nat.le_of_ble_eq_true rfl) dX0_init_31 (fun q2 H hP hD hS => ?_)
  simp only [List.append_assoc, List.cons_append, List.nil_append] at hP hD
  have hP : va_P D classes ((a, .inr (0, [.ref q1, .int 0])) :: ([(q1, .inl (cW, 14, .inr (.inr (.inr (.inr (fun _ => none))))))] ++ ([(q2, .inr (3, [.null, .null, .null, .null, .int 0, .int 0]))]))) H := hP
  have hD : va_D A ((a, .inr (0, [.ref q1, .int 0])) :: ([(q1, .inl (cW, 14, .inr (.inr (.inr (.inr (fun _ => none))))))] ++ ([(q2, .inr (3, [.null, .null, .null, .null, .int 0, .int 0]))]))) := hD
  refine W.widen (k := 2) (n := 20) (by omega) (by omega) ?_
  refine W.eq (g2 := F0 m 34 ls [.ref q2, .int (0 : Int32), .ref q1]) rfl ?_
  refine lv_dup hx hb dX0_init_34 rfl ?_
  have hPx : va_P D classes (((a, .inr (0, [.ref q1, .int 0])) :: ([(q1, .inl (cW, 14, .inr (.inr (.inr (.inr (fun _ => none))))))])) ++ [(q2, .inr (3, [.null, .null, .null, .null, .int 0, .int 0]))]) H := by simpa only [List.append_assoc, List.cons_append, List.nil_append] using hP
  have hDx : va_D A (((a, .inr (0, [.ref q1, .int 0])) :: ([(q1, .inl (cW, 14, .inr (.inr (.inr (.inr (fun _ => none))))))])) ++ [(q2, .inr (3, [.null, .null, .null, .null, .int 0, .int 0]))]) := by simpa only [List.append_assoc, List.cons_append, List.nil_append] using hD
  have hPc := P_suf hPx
  have hDc := D_suf hDx
  have hFc := va_freeX hDc hS hA
  refine va_callv (va_runI (As := []) (rest := [.ref q2, .int (0 : Int32), .ref q1]) ⟨hx, hb, hml, hown, hts⟩ (c_X5_init l D cI cZ cW H.size q2) ⟨callB_of 0 hts (gA tw_88) rfl rfl rfl (ht _ tw_4) (ht _ tw_123) hd_X5_init ⟨Nat.le_of_ble_eq_true rfl, Nat.le_of_ble_eq_true rfl⟩, rfl, ht _ tw_87⟩ ⟨PW_blind, fun U hU hW => PW_mk hPc hDc hK hU hW⟩ rfl rfl hl.1 rfl (lv_room (Nat.le_of_ble_eq_true rfl)) dX0_init_35 ⟨Nat.le_of_ble_eq_true rfl, Nat.le_of_ble_eq_true rfl⟩) hS (fun q _ h => hFc q h) hFc (fun u t H1 locs ht1 hvm hf hB hz1 hk1 hS => ?_)
  obtain ⟨z3, rfl⟩ : ∃ z, z = u := ⟨_, rfl⟩
  obtain ⟨hB, hDB⟩ := hB
  rw [ht1] at hB
  obtain ⟨hPn, hDn⟩ := cjM hPx hDx hFc hk1 hB hDB
  clear hP hD hPx hDx hPc hDc hFc hk1 hB hDB
  subst hf
  have hP := hPn
  have hD := hDn
  clear hPn hDn
  generalize H1 = H at hP hS ⊢
  simp only [List.append_assoc, List.cons_append, List.nil_append] at hP hD
  have hP : va_P D classes ((a, .inr (0, [.ref q1, .int 0])) :: ([(q1, .inl (cW, 14, .inr (.inr (.inr (.inr (fun _ => none))))))] ++ (wW cI cZ z3 w0))) H := hP
  have hD : va_D A ((a, .inr (0, [.ref q1, .int 0])) :: ([(q1, .inl (cW, 14, .inr (.inr (.inr (.inr (fun _ => none))))))] ++ (wW cI cZ z3 w0))) := hD
  refine W.widen (k := 6) (n := 39) (by omega) (by omega) ?_
  refine W.eq (g2 := F0 m 38 ls [.ref (z3 0), .int (0 : Int32), .ref q1]) rfl ?_
  refine va_astq hx hb hK hP hD hS 1 2 2 3 rfl rfl rfl rfl (by unfold vp_in; decide) dX0_init_38 (fun H locs hP hD hS => ?_)
  obtain ⟨f4, ef4⟩ : ∃ y : Nat → Option Nat, y = va_up (fun _ => none) ((0 : Int32)).toNatClampNeg (some (z3 0)) := ⟨_, rfl⟩
  have hP : va_P D classes ((a, .inr (0, [.ref q1, .int 0])) :: ([(q1, .inl (cW, 14, .inr (.inr (.inr (.inr f4)))))] ++ (wW cI cZ z3 w0))) H := by rw [ef4]; exact hP
  have hD : va_D A ((a, .inr (0, [.ref q1, .int 0])) :: ([(q1, .inl (cW, 14, .inr (.inr (.inr (.inr f4)))))] ++ (wW cI cZ z3 w0))) := by rw [ef4]; exact hD
  refine W.eq (g2 := F0 m 39 ls []) rfl ?_
  refine lv_iinc (v := (1 : Int32)) (lv' := [(1, .int (1 : Int32)), (0, .ref a)]) hx hb dX0_init_39 hl (k := 0) rfl (by decide) (by decide) rfl (fun ls hl => ?_)
  refine lv_goto (tgt := 20) hx hb dX0_init_42 (by decide) ?_
  refine lv_iload_n hx hb dX0_init_20 rfl (lv_at hl 0 rfl) ?_
  refine lv_bipush (v := (14 : Int32)) hx hb dX0_init_21 (by decide) ?_
  refine lv_icmp_ge (tgt := 45) hx hb dX0_init_23 (by decide) (fun h => absurd h (by decide)) (fun _ => ?_)
  refine lv_aload_n hx hb dX0_init_26 rfl (lv_at hl 1 rfl) ?_
  refine va_get (D := D) (ci := 0) (v := .ref q1) (C := RX0) (T := TX0) (N := 2) hx hb ht inX0 hown hK hP 0 rfl rfl 0 (by decide) (ht _ tw_124) (fun _ h9 => h9) rfl dX0_init_27 ?_
  refine lv_iload_n hx hb dX0_init_30 rfl (lv_at hl 0 rfl) ?_
  refine va_new (ci := 3) (fs := [.null, .null, .null, .null, .int 0, .int 0]) (C := RX5) (T := TX5) (N := 6) hx hb ht inX5 tyX5 tyX5_ok hown (ht _ tw_121) (ht _ tw_85) (ht _ tw_4) hK hP hD hS hA rfl (fun j hj => by rcases (show j = 0 ∨ j = 1 ∨ j = 2 ∨ j = 3 ∨ j = 4 ∨ j = 5 by omega) with rfl | rfl | rfl | rfl | rfl | rfl <;> rfl) (Nat.le_of_ble_eq_true rfl) (Nat.le_of_ble_eq_true rfl) dX0_init_31 (fun q5 H hP hD hS => ?_)
  simp only [List.append_assoc, List.cons_append, List.nil_append] at hP hD
  have hP : va_P D classes ((a, .inr (0, [.ref q1, .int 0])) :: ([(q1, .inl (cW, 14, .inr (.inr (.inr (.inr f4)))))] ++ (wW cI cZ z3 w0 ++ ([(q5, .inr (3, [.null, .null, .null, .null, .int 0, .int 0]))])))) H := hP
  have hD : va_D A ((a, .inr (0, [.ref q1, .int 0])) :: ([(q1, .inl (cW, 14, .inr (.inr (.inr (.inr f4)))))] ++ (wW cI cZ z3 w0 ++ ([(q5, .inr (3, [.null, .null, .null, .null, .int 0, .int 0]))])))) := hD
  refine W.widen (k := 7) (n := 45) (by omega) (by omega) ?_
  refine W.eq (g2 := F0 m 34 ls [.ref q5, .int (1 : Int32), .ref q1]) rfl ?_
  refine lv_dup hx hb dX0_init_34 rfl ?_
  have hPx : va_P D classes (((a, .inr (0, [.ref q1, .int 0])) :: ([(q1, .inl (cW, 14, .inr (.inr (.inr (.inr f4)))))] ++ (wW cI cZ z3 w0))) ++ [(q5, .inr (3, [.null, .null, .null, .null, .int 0, .int 0]))]) H := by simpa only [List.append_assoc, List.cons_append, List.nil_append] using hP
  have hDx : va_D A (((a, .inr (0, [.ref q1, .int 0])) :: ([(q1, .inl (cW, 14, .inr (.inr (.inr (.inr f4)))))] ++ (wW cI cZ z3 w0))) ++ [(q5, .inr (3, [.null, .null, .null, .null, .int 0, .int 0]))]) := by simpa only [List.append_assoc, List.cons_append, List.nil_append] using hD
  have hPc := P_suf hPx
  have hDc := D_suf hDx
  have hFc := va_freeX hDc hS hA
  refine va_callv (va_runI (As := []) (rest := [.ref q5, .int (1 : Int32), .ref q1]) ⟨hx, hb, hml, hown, hts⟩ (c_X5_init l D cI cZ cW H.size q5) ⟨callB_of 0 hts (gA tw_88) rfl rfl rfl (ht _ tw_4) (ht _ tw_123) hd_X5_init ⟨Nat.le_of_ble_eq_true rfl, Nat.le_of_ble_eq_true rfl⟩, rfl, ht _ tw_87⟩ ⟨PW_blind, fun U hU hW => PW_mk hPc hDc hK hU hW⟩ rfl rfl hl.1 rfl (lv_room (Nat.le_of_ble_eq_true rfl)) dX0_init_35 ⟨Nat.le_of_ble_eq_true rfl, Nat.le_of_ble_eq_true rfl⟩) hS (fun q _ h => hFc q h) hFc (fun u t H1 locs ht1 hvm hf hB hz1 hk1 hS => ?_)
  obtain ⟨z6, rfl⟩ : ∃ z, z = u := ⟨_, rfl⟩
  obtain ⟨hB, hDB⟩ := hB
  rw [ht1] at hB
  obtain ⟨hPn, hDn⟩ := cjM hPx hDx hFc hk1 hB hDB
  clear hP hD hPx hDx hPc hDc hFc hk1 hB hDB
  subst hf
  have hP := hPn
  have hD := hDn
  clear hPn hDn
  generalize H1 = H at hP hS ⊢
  simp only [List.append_assoc, List.cons_append, List.nil_append] at hP hD
  have hP : va_P D classes ((a, .inr (0, [.ref q1, .int 0])) :: ([(q1, .inl (cW, 14, .inr (.inr (.inr (.inr f4)))))] ++ (wW cI cZ z3 w0 ++ (wW cI cZ z6 w0)))) H := hP
  have hD : va_D A ((a, .inr (0, [.ref q1, .int 0])) :: ([(q1, .inl (cW, 14, .inr (.inr (.inr (.inr f4)))))] ++ (wW cI cZ z3 w0 ++ (wW cI cZ z6 w0)))) := hD
  refine W.widen (k := 11) (n := 64) (by omega) (by omega) ?_
  refine W.eq (g2 := F0 m 38 ls [.ref (z6 0), .int (1 : Int32), .ref q1]) rfl ?_
  refine va_astq hx hb hK hP hD hS 1 2 7 3 rfl rfl rfl rfl (by unfold vp_in; decide) dX0_init_38 (fun H locs hP hD hS => ?_)
  obtain ⟨f7, ef7⟩ : ∃ y : Nat → Option Nat, y = va_up f4 ((1 : Int32)).toNatClampNeg (some (z6 0)) := ⟨_, rfl⟩
  have hP : va_P D classes ((a, .inr (0, [.ref q1, .int 0])) :: ([(q1, .inl (cW, 14, .inr (.inr (.inr (.inr f7)))))] ++ (wW cI cZ z3 w0 ++ (wW cI cZ z6 w0)))) H := by rw [ef7]; exact hP
  have hD : va_D A ((a, .inr (0, [.ref q1, .int 0])) :: ([(q1, .inl (cW, 14, .inr (.inr (.inr (.inr f7)))))] ++ (wW cI cZ z3 w0 ++ (wW cI cZ z6 w0)))) := by rw [ef7]; exact hD
  refine W.eq (g2 := F0 m 39 ls []) rfl ?_
  refine lv_iinc (v := (2 : Int32)) (lv' := [(1, .int (2 : Int32)), (0, .ref a)]) hx hb dX0_init_39 hl (k := 0) rfl (by decide) (by decide) rfl (fun ls hl => ?_)
  refine lv_goto (tgt := 20) hx hb dX0_init_42 (by decide) ?_
  refine lv_iload_n hx hb dX0_init_20 rfl (lv_at hl 0 rfl) ?_
  refine lv_bipush (v := (14 : Int32)) hx hb dX0_init_21 (by decide) ?_
  refine lv_icmp_ge (tgt := 45) hx hb dX0_init_23 (by decide) (fun h => absurd h (by decide)) (fun _ => ?_)
  refine lv_aload_n hx hb dX0_init_26 rfl (lv_at hl 1 rfl) ?_
  refine va_get (D := D) (ci := 0) (v := .ref q1) (C := RX0) (T := TX0) (N := 2) hx hb ht inX0 hown hK hP 0 rfl rfl 0 (by decide) (ht _ tw_124) (fun _ h9 => h9) rfl dX0_init_27 ?_
  refine lv_iload_n hx hb dX0_init_30 rfl (lv_at hl 0 rfl) ?_
  refine va_new (ci := 3) (fs := [.null, .null, .null, .null, .int 0, .int 0]) (C := RX5) (T := TX5) (N := 6) hx hb ht inX5 tyX5 tyX5_ok hown (ht _ tw_121) (ht _ tw_85) (ht _ tw_4) hK hP hD hS hA rfl (fun j hj => by rcases (show j = 0 ∨ j = 1 ∨ j = 2 ∨ j = 3 ∨ j = 4 ∨ j = 5 by omega) with rfl | rfl | rfl | rfl | rfl | rfl <;> rfl) (Nat.le_of_ble_eq_true rfl) (Nat.le_of_ble_eq_true rfl) dX0_init_31 (fun q8 H hP hD hS => ?_)
  simp only [List.append_assoc, List.cons_append, List.nil_append] at hP hD
  have hP : va_P D classes ((a, .inr (0, [.ref q1, .int 0])) :: ([(q1, .inl (cW, 14, .inr (.inr (.inr (.inr f7)))))] ++ (wW cI cZ z3 w0 ++ (wW cI cZ z6 w0 ++ ([(q8, .inr (3, [.null, .null, .null, .null, .int 0, .int 0]))]))))) H := hP
  have hD : va_D A ((a, .inr (0, [.ref q1, .int 0])) :: ([(q1, .inl (cW, 14, .inr (.inr (.inr (.inr f7)))))] ++ (wW cI cZ z3 w0 ++ (wW cI cZ z6 w0 ++ ([(q8, .inr (3, [.null, .null, .null, .null, .int 0, .int 0]))]))))) := hD
  refine W.widen (k := 12) (n := 70) (by omega) (by omega) ?_
  refine W.eq (g2 := F0 m 34 ls [.ref q8, .int (2 : Int32), .ref q1]) rfl ?_
  refine lv_dup hx hb dX0_init_34 rfl ?_
  have hPx : va_P D classes (((a, .inr (0, [.ref q1, .int 0])) :: ([(q1, .inl (cW, 14, .inr (.inr (.inr (.inr f7)))))] ++ (wW cI cZ z3 w0 ++ (wW cI cZ z6 w0)))) ++ [(q8, .inr (3, [.null, .null, .null, .null, .int 0, .int 0]))]) H := by simpa only [List.append_assoc, List.cons_append, List.nil_append] using hP
  have hDx : va_D A (((a, .inr (0, [.ref q1, .int 0])) :: ([(q1, .inl (cW, 14, .inr (.inr (.inr (.inr f7)))))] ++ (wW cI cZ z3 w0 ++ (wW cI cZ z6 w0)))) ++ [(q8, .inr (3, [.null, .null, .null, .null, .int 0, .int 0]))]) := by simpa only [List.append_assoc, List.cons_append, List.nil_append] using hD
  have hPc := P_suf hPx
  have hDc := D_suf hDx
  have hFc := va_freeX hDc hS hA
  refine va_callv (va_runI (As := []) (rest := [.ref q8, .int (2 : Int32), .ref q1]) ⟨hx, hb, hml, hown, hts⟩ (c_X5_init l D cI cZ cW H.size q8) ⟨callB_of 0 hts (gA tw_88) rfl rfl rfl (ht _ tw_4) (ht _ tw_123) hd_X5_init ⟨Nat.le_of_ble_eq_true rfl, Nat.le_of_ble_eq_true rfl⟩, rfl, ht _ tw_87⟩ ⟨PW_blind, fun U hU hW => PW_mk hPc hDc hK hU hW⟩ rfl rfl hl.1 rfl (lv_room (Nat.le_of_ble_eq_true rfl)) dX0_init_35 ⟨Nat.le_of_ble_eq_true rfl, Nat.le_of_ble_eq_true rfl⟩) hS (fun q _ h => hFc q h) hFc (fun u t H1 locs ht1 hvm hf hB hz1 hk1 hS => ?_)
  obtain ⟨z9, rfl⟩ : ∃ z, z = u := ⟨_, rfl⟩
  obtain ⟨hB, hDB⟩ := hB
  rw [ht1] at hB
  obtain ⟨hPn, hDn⟩ := cjM hPx hDx hFc hk1 hB hDB
  clear hP hD hPx hDx hPc hDc hFc hk1 hB hDB
  subst hf
  have hP := hPn
  have hD := hDn
  clear hPn hDn
  generalize H1 = H at hP hS ⊢
  simp only [List.append_assoc, List.cons_append, List.nil_append] at hP hD
  have hP : va_P D classes ((a, .inr (0, [.ref q1, .int 0])) :: ([(q1, .inl (cW, 14, .inr (.inr (.inr (.inr f7)))))] ++ (wW cI cZ z3 w0 ++ (wW cI cZ z6 w0 ++ (wW cI cZ z9 w0))))) H := hP
  have hD : va_D A ((a, .inr (0, [.ref q1, .int 0])) :: ([(q1, .inl (cW, 14, .inr (.inr (.inr (.inr f7)))))] ++ (wW cI cZ z3 w0 ++ (wW cI cZ z6 w0 ++ (wW cI cZ z9 w0))))) := hD
  refine W.widen (k := 16) (n := 89) (by omega) (by omega) ?_
  refine W.eq (g2 := F0 m 38 ls [.ref (z9 0), .int (2 : Int32), .ref q1]) rfl ?_
  refine va_astq hx hb hK hP hD hS 1 2 12 3 rfl rfl rfl rfl (by unfold vp_in; decide) dX0_init_38 (fun H locs hP hD hS => ?_)
  obtain ⟨f10, ef10⟩ : ∃ y : Nat → Option Nat, y = va_up f7 ((2 : Int32)).toNatClampNeg (some (z9 0)) := ⟨_, rfl⟩
  have hP : va_P D classes ((a, .inr (0, [.ref q1, .int 0])) :: ([(q1, .inl (cW, 14, .inr (.inr (.inr (.inr f10)))))] ++ (wW cI cZ z3 w0 ++ (wW cI cZ z6 w0 ++ (wW cI cZ z9 w0))))) H := by rw [ef10]; exact hP
  have hD : va_D A ((a, .inr (0, [.ref q1, .int 0])) :: ([(q1, .inl (cW, 14, .inr (.inr (.inr (.inr f10)))))] ++ (wW cI cZ z3 w0 ++ (wW cI cZ z6 w0 ++ (wW cI cZ z9 w0))))) := by rw [ef10]; exact hD
  refine W.eq (g2 := F0 m 39 ls []) rfl ?_
  refine lv_iinc (v := (3 : Int32)) (lv' := [(1, .int (3 : Int32)), (0, .ref a)]) hx hb dX0_init_39 hl (k := 0) rfl (by decide) (by decide) rfl (fun ls hl => ?_)
  refine lv_goto (tgt := 20) hx hb dX0_init_42 (by decide) ?_
  refine lv_iload_n hx hb dX0_init_20 rfl (lv_at hl 0 rfl) ?_
  refine lv_bipush (v := (14 : Int32)) hx hb dX0_init_21 (by decide) ?_
  refine lv_icmp_ge (tgt := 45) hx hb dX0_init_23 (by decide) (fun h => absurd h (by decide)) (fun _ => ?_)
  refine lv_aload_n hx hb dX0_init_26 rfl (lv_at hl 1 rfl) ?_
  refine va_get (D := D) (ci := 0) (v := .ref q1) (C := RX0) (T := TX0) (N := 2) hx hb ht inX0 hown hK hP 0 rfl rfl 0 (by decide) (ht _ tw_124) (fun _ h9 => h9) rfl dX0_init_27 ?_
  refine lv_iload_n hx hb dX0_init_30 rfl (lv_at hl 0 rfl) ?_
  refine va_new (ci := 3) (fs := [.null, .null, .null, .null, .int 0, .int 0]) (C := RX5) (T := TX5) (N := 6) hx hb ht inX5 tyX5 tyX5_ok hown (ht _ tw_121) (ht _ tw_85) (ht _ tw_4) hK hP hD hS hA rfl (fun j hj => by rcases (show j = 0 ∨ j = 1 ∨ j = 2 ∨ j = 3 ∨ j = 4 ∨ j = 5 by omega) with rfl | rfl | rfl | rfl | rfl | rfl <;> rfl) (Nat.le_of_ble_eq_true rfl) (Nat.le_of_ble_eq_true rfl) dX0_init_31 (fun q11 H hP hD hS => ?_)
  simp only [List.append_assoc, List.cons_append, List.nil_append] at hP hD
  have hP : va_P D classes ((a, .inr (0, [.ref q1, .int 0])) :: ([(q1, .inl (cW, 14, .inr (.inr (.inr (.inr f10)))))] ++ (wW cI cZ z3 w0 ++ (wW cI cZ z6 w0 ++ (wW cI cZ z9 w0 ++ ([(q11, .inr (3, [.null, .null, .null, .null, .int 0, .int 0]))])))))) H := hP
  have hD : va_D A ((a, .inr (0, [.ref q1, .int 0])) :: ([(q1, .inl (cW, 14, .inr (.inr (.inr (.inr f10)))))] ++ (wW cI cZ z3 w0 ++ (wW cI cZ z6 w0 ++ (wW cI cZ z9 w0 ++ ([(q11, .inr (3, [.null, .null, .null, .null, .int 0, .int 0]))])))))) := hD
  refine W.widen (k := 17) (n := 95) (by omega) (by omega) ?_
  refine W.eq (g2 := F0 m 34 ls [.ref q11, .int (3 : Int32), .ref q1]) rfl ?_
  refine lv_dup hx hb dX0_init_34 rfl ?_
  have hPx : va_P D classes (((a, .inr (0, [.ref q1, .int 0])) :: ([(q1, .inl (cW, 14, .inr (.inr (.inr (.inr f10)))))] ++ (wW cI cZ z3 w0 ++ (wW cI cZ z6 w0 ++ (wW cI cZ z9 w0))))) ++ [(q11, .inr (3, [.null, .null, .null, .null, .int 0, .int 0]))]) H := by simpa only [List.append_assoc, List.cons_append, List.nil_append] using hP
  have hDx : va_D A (((a, .inr (0, [.ref q1, .int 0])) :: ([(q1, .inl (cW, 14, .inr (.inr (.inr (.inr f10)))))] ++ (wW cI cZ z3 w0 ++ (wW cI cZ z6 w0 ++ (wW cI cZ z9 w0))))) ++ [(q11, .inr (3, [.null, .null, .null, .null, .int 0, .int 0]))]) := by simpa only [List.append_assoc, List.cons_append, List.nil_append] using hD
  have hPc := P_suf hPx
  have hDc := D_suf hDx
  have hFc := va_freeX hDc hS hA
  refine va_callv (va_runI (As := []) (rest := [.ref q11, .int (3 : Int32), .ref q1]) ⟨hx, hb, hml, hown, hts⟩ (c_X5_init l D cI cZ cW H.size q11) ⟨callB_of 0 hts (gA tw_88) rfl rfl rfl (ht _ tw_4) (ht _ tw_123) hd_X5_init ⟨Nat.le_of_ble_eq_true rfl, Nat.le_of_ble_eq_true rfl⟩, rfl, ht _ tw_87⟩ ⟨PW_blind, fun U hU hW => PW_mk hPc hDc hK hU hW⟩ rfl rfl hl.1 rfl (lv_room (Nat.le_of_ble_eq_true rfl)) dX0_init_35 ⟨Nat.le_of_ble_eq_true rfl, Nat.le_of_ble_eq_true rfl⟩) hS (fun q _ h => hFc q h) hFc (fun u t H1 locs ht1 hvm hf hB hz1 hk1 hS => ?_)
  obtain ⟨z12, rfl⟩ : ∃ z, z = u := ⟨_, rfl⟩
  obtain ⟨hB, hDB⟩ := hB
  rw [ht1] at hB
  obtain ⟨hPn, hDn⟩ := cjM hPx hDx hFc hk1 hB hDB
  clear hP hD hPx hDx hPc hDc hFc hk1 hB hDB
  subst hf
  have hP := hPn
  have hD := hDn
  clear hPn hDn
  generalize H1 = H at hP hS ⊢
  simp only [List.append_assoc, List.cons_append, List.nil_append] at hP hD
  have hP : va_P D classes ((a, .inr (0, [.ref q1, .int 0])) :: ([(q1, .inl (cW, 14, .inr (.inr (.inr (.inr f10)))))] ++ (wW cI cZ z3 w0 ++ (wW cI cZ z6 w0 ++ (wW cI cZ z9 w0 ++ (wW cI cZ z12 w0)))))) H := hP
  have hD : va_D A ((a, .inr (0, [.ref q1, .int 0])) :: ([(q1, .inl (cW, 14, .inr (.inr (.inr (.inr f10)))))] ++ (wW cI cZ z3 w0 ++ (wW cI cZ z6 w0 ++ (wW cI cZ z9 w0 ++ (wW cI cZ z12 w0)))))) := hD
  refine W.widen (k := 21) (n := 114) (by omega) (by omega) ?_
  refine W.eq (g2 := F0 m 38 ls [.ref (z12 0), .int (3 : Int32), .ref q1]) rfl ?_
  refine va_astq hx hb hK hP hD hS 1 2 17 3 rfl rfl rfl rfl (by unfold vp_in; decide) dX0_init_38 (fun H locs hP hD hS => ?_)
  obtain ⟨f13, ef13⟩ : ∃ y : Nat → Option Nat, y = va_up f10 ((3 : Int32)).toNatClampNeg (some (z12 0)) := ⟨_, rfl⟩
  have hP : va_P D classes ((a, .inr (0, [.ref q1, .int 0])) :: ([(q1, .inl (cW, 14, .inr (.inr (.inr (.inr f13)))))] ++ (wW cI cZ z3 w0 ++ (wW cI cZ z6 w0 ++ (wW cI cZ z9 w0 ++ (wW cI cZ z12 w0)))))) H := by rw [ef13]; exact hP
  have hD : va_D A ((a, .inr (0, [.ref q1, .int 0])) :: ([(q1, .inl (cW, 14, .inr (.inr (.inr (.inr f13)))))] ++ (wW cI cZ z3 w0 ++ (wW cI cZ z6 w0 ++ (wW cI cZ z9 w0 ++ (wW cI cZ z12 w0)))))) := by rw [ef13]; exact hD
  refine W.eq (g2 := F0 m 39 ls []) rfl ?_
  refine lv_iinc (v := (4 : Int32)) (lv' := [(1, .int (4 : Int32)), (0, .ref a)]) hx hb dX0_init_39 hl (k := 0) rfl (by decide) (by decide) rfl (fun ls hl => ?_)
  refine lv_goto (tgt := 20) hx hb dX0_init_42 (by decide) ?_
  refine lv_iload_n hx hb dX0_init_20 rfl (lv_at hl 0 rfl) ?_
  refine lv_bipush (v := (14 : Int32)) hx hb dX0_init_21 (by decide) ?_
  refine lv_icmp_ge (tgt := 45) hx hb dX0_init_23 (by decide) (fun h => absurd h (by decide)) (fun _ => ?_)
  refine lv_aload_n hx hb dX0_init_26 rfl (lv_at hl 1 rfl) ?_
  refine va_get (D := D) (ci := 0) (v := .ref q1) (C := RX0) (T := TX0) (N := 2) hx hb ht inX0 hown hK hP 0 rfl rfl 0 (by decide) (ht _ tw_124) (fun _ h9 => h9) rfl dX0_init_27 ?_
  refine lv_iload_n hx hb dX0_init_30 rfl (lv_at hl 0 rfl) ?_
  refine va_new (ci := 3) (fs := [.null, .null, .null, .null, .int 0, .int 0]) (C := RX5) (T := TX5) (N := 6) hx hb ht inX5 tyX5 tyX5_ok hown (ht _ tw_121) (ht _ tw_85) (ht _ tw_4) hK hP hD hS hA rfl (fun j hj => by rcases (show j = 0 ∨ j = 1 ∨ j = 2 ∨ j = 3 ∨ j = 4 ∨ j = 5 by omega) with rfl | rfl | rfl | rfl | rfl | rfl <;> rfl) (Nat.le_of_ble_eq_true rfl) (Nat.le_of_ble_eq_true rfl) dX0_init_31 (fun q14 H hP hD hS => ?_)
  simp only [List.append_assoc, List.cons_append, List.nil_append] at hP hD
  have hP : va_P D classes ((a, .inr (0, [.ref q1, .int 0])) :: ([(q1, .inl (cW, 14, .inr (.inr (.inr (.inr f13)))))] ++ (wW cI cZ z3 w0 ++ (wW cI cZ z6 w0 ++ (wW cI cZ z9 w0 ++ (wW cI cZ z12 w0 ++ ([(q14, .inr (3, [.null, .null, .null, .null, .int 0, .int 0]))]))))))) H := hP
  have hD : va_D A ((a, .inr (0, [.ref q1, .int 0])) :: ([(q1, .inl (cW, 14, .inr (.inr (.inr (.inr f13)))))] ++ (wW cI cZ z3 w0 ++ (wW cI cZ z6 w0 ++ (wW cI cZ z9 w0 ++ (wW cI cZ z12 w0 ++ ([(q14, .inr (3, [.null, .null, .null, .null, .int 0, .int 0]))]))))))) := hD
  refine W.widen (k := 22) (n := 120) (by omega) (by omega) ?_
  refine W.eq (g2 := F0 m 34 ls [.ref q14, .int (4 : Int32), .ref q1]) rfl ?_
  refine lv_dup hx hb dX0_init_34 rfl ?_
  have hPx : va_P D classes (((a, .inr (0, [.ref q1, .int 0])) :: ([(q1, .inl (cW, 14, .inr (.inr (.inr (.inr f13)))))] ++ (wW cI cZ z3 w0 ++ (wW cI cZ z6 w0 ++ (wW cI cZ z9 w0 ++ (wW cI cZ z12 w0)))))) ++ [(q14, .inr (3, [.null, .null, .null, .null, .int 0, .int 0]))]) H := by simpa only [List.append_assoc, List.cons_append, List.nil_append] using hP
  have hDx : va_D A (((a, .inr (0, [.ref q1, .int 0])) :: ([(q1, .inl (cW, 14, .inr (.inr (.inr (.inr f13)))))] ++ (wW cI cZ z3 w0 ++ (wW cI cZ z6 w0 ++ (wW cI cZ z9 w0 ++ (wW cI cZ z12 w0)))))) ++ [(q14, .inr (3, [.null, .null, .null, .null, .int 0, .int 0]))]) := by simpa only [List.append_assoc, List.cons_append, List.nil_append] using hD
  have hPc := P_suf hPx
  have hDc := D_suf hDx
  have hFc := va_freeX hDc hS hA
  refine va_callv (va_runI (As := []) (rest := [.ref q14, .int (4 : Int32), .ref q1]) ⟨hx, hb, hml, hown, hts⟩ (c_X5_init l D cI cZ cW H.size q14) ⟨callB_of 0 hts (gA tw_88) rfl rfl rfl (ht _ tw_4) (ht _ tw_123) hd_X5_init ⟨Nat.le_of_ble_eq_true rfl, Nat.le_of_ble_eq_true rfl⟩, rfl, ht _ tw_87⟩ ⟨PW_blind, fun U hU hW => PW_mk hPc hDc hK hU hW⟩ rfl rfl hl.1 rfl (lv_room (Nat.le_of_ble_eq_true rfl)) dX0_init_35 ⟨Nat.le_of_ble_eq_true rfl, Nat.le_of_ble_eq_true rfl⟩) hS (fun q _ h => hFc q h) hFc (fun u t H1 locs ht1 hvm hf hB hz1 hk1 hS => ?_)
  obtain ⟨z15, rfl⟩ : ∃ z, z = u := ⟨_, rfl⟩
  obtain ⟨hB, hDB⟩ := hB
  rw [ht1] at hB
  obtain ⟨hPn, hDn⟩ := cjM hPx hDx hFc hk1 hB hDB
  clear hP hD hPx hDx hPc hDc hFc hk1 hB hDB
  subst hf
  have hP := hPn
  have hD := hDn
  clear hPn hDn
  generalize H1 = H at hP hS ⊢
  simp only [List.append_assoc, List.cons_append, List.nil_append] at hP hD
  have hP : va_P D classes ((a, .inr (0, [.ref q1, .int 0])) :: ([(q1, .inl (cW, 14, .inr (.inr (.inr (.inr f13)))))] ++ (wW cI cZ z3 w0 ++ (wW cI cZ z6 w0 ++ (wW cI cZ z9 w0 ++ (wW cI cZ z12 w0 ++ (wW cI cZ z15 w0))))))) H := hP
  have hD : va_D A ((a, .inr (0, [.ref q1, .int 0])) :: ([(q1, .inl (cW, 14, .inr (.inr (.inr (.inr f13)))))] ++ (wW cI cZ z3 w0 ++ (wW cI cZ z6 w0 ++ (wW cI cZ z9 w0 ++ (wW cI cZ z12 w0 ++ (wW cI cZ z15 w0))))))) := hD
  refine W.widen (k := 26) (n := 139) (by omega) (by omega) ?_
  refine W.eq (g2 := F0 m 38 ls [.ref (z15 0), .int (4 : Int32), .ref q1]) rfl ?_
  refine va_astq hx hb hK hP hD hS 1 2 22 3 rfl rfl rfl rfl (by unfold vp_in; decide) dX0_init_38 (fun H locs hP hD hS => ?_)
  obtain ⟨f16, ef16⟩ : ∃ y : Nat → Option Nat, y = va_up f13 ((4 : Int32)).toNatClampNeg (some (z15 0)) := ⟨_, rfl⟩
  have hP : va_P D classes ((a, .inr (0, [.ref q1, .int 0])) :: ([(q1, .inl (cW, 14, .inr (.inr (.inr (.inr f16)))))] ++ (wW cI cZ z3 w0 ++ (wW cI cZ z6 w0 ++ (wW cI cZ z9 w0 ++ (wW cI cZ z12 w0 ++ (wW cI cZ z15 w0))))))) H := by rw [ef16]; exact hP
  have hD : va_D A ((a, .inr (0, [.ref q1, .int 0])) :: ([(q1, .inl (cW, 14, .inr (.inr (.inr (.inr f16)))))] ++ (wW cI cZ z3 w0 ++ (wW cI cZ z6 w0 ++ (wW cI cZ z9 w0 ++ (wW cI cZ z12 w0 ++ (wW cI cZ z15 w0))))))) := by rw [ef16]; exact hD
  refine W.eq (g2 := F0 m 39 ls []) rfl ?_
  refine lv_iinc (v := (5 : Int32)) (lv' := [(1, .int (5 : Int32)), (0, .ref a)]) hx hb dX0_init_39 hl (k := 0) rfl (by decide) (by decide) rfl (fun ls hl => ?_)
  refine lv_goto (tgt := 20) hx hb dX0_init_42 (by decide) ?_
  refine lv_iload_n hx hb dX0_init_20 rfl (lv_at hl 0 rfl) ?_
  refine lv_bipush (v := (14 : Int32)) hx hb dX0_init_21 (by decide) ?_
  refine lv_icmp_ge (tgt := 45) hx hb dX0_init_23 (by decide) (fun h => absurd h (by decide)) (fun _ => ?_)
  refine lv_aload_n hx hb dX0_init_26 rfl (lv_at hl 1 rfl) ?_
  refine va_get (D := D) (ci := 0) (v := .ref q1) (C := RX0) (T := TX0) (N := 2) hx hb ht inX0 hown hK hP 0 rfl rfl 0 (by decide) (ht _ tw_124) (fun _ h9 => h9) rfl dX0_init_27 ?_
  refine lv_iload_n hx hb dX0_init_30 rfl (lv_at hl 0 rfl) ?_
  refine va_new (ci := 3) (fs := [.null, .null, .null, .null, .int 0, .int 0]) (C := RX5) (T := TX5) (N := 6) hx hb ht inX5 tyX5 tyX5_ok hown (ht _ tw_121) (ht _ tw_85) (ht _ tw_4) hK hP hD hS hA rfl (fun j hj => by rcases (show j = 0 ∨ j = 1 ∨ j = 2 ∨ j = 3 ∨ j = 4 ∨ j = 5 by omega) with rfl | rfl | rfl | rfl | rfl | rfl <;> rfl) (Nat.le_of_ble_eq_true rfl) (Nat.le_of_ble_eq_true rfl) dX0_init_31 (fun q17 H hP hD hS => ?_)
  simp only [List.append_assoc, List.cons_append, List.nil_append] at hP hD
  have hP : va_P D classes ((a, .inr (0, [.ref q1, .int 0])) :: ([(q1, .inl (cW, 14, .inr (.inr (.inr (.inr f16)))))] ++ (wW cI cZ z3 w0 ++ (wW cI cZ z6 w0 ++ (wW cI cZ z9 w0 ++ (wW cI cZ z12 w0 ++ (wW cI cZ z15 w0 ++ ([(q17, .inr (3, [.null, .null, .null, .null, .int 0, .int 0]))])))))))) H := hP
  have hD : va_D A ((a, .inr (0, [.ref q1, .int 0])) :: ([(q1, .inl (cW, 14, .inr (.inr (.inr (.inr f16)))))] ++ (wW cI cZ z3 w0 ++ (wW cI cZ z6 w0 ++ (wW cI cZ z9 w0 ++ (wW cI cZ z12 w0 ++ (wW cI cZ z15 w0 ++ ([(q17, .inr (3, [.null, .null, .null, .null, .int 0, .int 0]))])))))))) := hD
  refine W.widen (k := 27) (n := 145) (by omega) (by omega) ?_
  refine W.eq (g2 := F0 m 34 ls [.ref q17, .int (5 : Int32), .ref q1]) rfl ?_
  refine lv_dup hx hb dX0_init_34 rfl ?_
  have hPx : va_P D classes (((a, .inr (0, [.ref q1, .int 0])) :: ([(q1, .inl (cW, 14, .inr (.inr (.inr (.inr f16)))))] ++ (wW cI cZ z3 w0 ++ (wW cI cZ z6 w0 ++ (wW cI cZ z9 w0 ++ (wW cI cZ z12 w0 ++ (wW cI cZ z15 w0))))))) ++ [(q17, .inr (3, [.null, .null, .null, .null, .int 0, .int 0]))]) H := by simpa only [List.append_assoc, List.cons_append, List.nil_append] using hP
  have hDx : va_D A (((a, .inr (0, [.ref q1, .int 0])) :: ([(q1, .inl (cW, 14, .inr (.inr (.inr (.inr f16)))))] ++ (wW cI cZ z3 w0 ++ (wW cI cZ z6 w0 ++ (wW cI cZ z9 w0 ++ (wW cI cZ z12 w0 ++ (wW cI cZ z15 w0))))))) ++ [(q17, .inr (3, [.null, .null, .null, .null, .int 0, .int 0]))]) := by simpa only [List.append_assoc, List.cons_append, List.nil_append] using hD
  have hPc := P_suf hPx
  have hDc := D_suf hDx
  have hFc := va_freeX hDc hS hA
  refine va_callv (va_runI (As := []) (rest := [.ref q17, .int (5 : Int32), .ref q1]) ⟨hx, hb, hml, hown, hts⟩ (c_X5_init l D cI cZ cW H.size q17) ⟨callB_of 0 hts (gA tw_88) rfl rfl rfl (ht _ tw_4) (ht _ tw_123) hd_X5_init ⟨Nat.le_of_ble_eq_true rfl, Nat.le_of_ble_eq_true rfl⟩, rfl, ht _ tw_87⟩ ⟨PW_blind, fun U hU hW => PW_mk hPc hDc hK hU hW⟩ rfl rfl hl.1 rfl (lv_room (Nat.le_of_ble_eq_true rfl)) dX0_init_35 ⟨Nat.le_of_ble_eq_true rfl, Nat.le_of_ble_eq_true rfl⟩) hS (fun q _ h => hFc q h) hFc (fun u t H1 locs ht1 hvm hf hB hz1 hk1 hS => ?_)
  obtain ⟨z18, rfl⟩ : ∃ z, z = u := ⟨_, rfl⟩
  obtain ⟨hB, hDB⟩ := hB
  rw [ht1] at hB
  obtain ⟨hPn, hDn⟩ := cjM hPx hDx hFc hk1 hB hDB
  clear hP hD hPx hDx hPc hDc hFc hk1 hB hDB
  subst hf
  have hP := hPn
  have hD := hDn
  clear hPn hDn
  generalize H1 = H at hP hS ⊢
  simp only [List.append_assoc, List.cons_append, List.nil_append] at hP hD
  have hP : va_P D classes ((a, .inr (0, [.ref q1, .int 0])) :: ([(q1, .inl (cW, 14, .inr (.inr (.inr (.inr f16)))))] ++ (wW cI cZ z3 w0 ++ (wW cI cZ z6 w0 ++ (wW cI cZ z9 w0 ++ (wW cI cZ z12 w0 ++ (wW cI cZ z15 w0 ++ (wW cI cZ z18 w0)))))))) H := hP
  have hD : va_D A ((a, .inr (0, [.ref q1, .int 0])) :: ([(q1, .inl (cW, 14, .inr (.inr (.inr (.inr f16)))))] ++ (wW cI cZ z3 w0 ++ (wW cI cZ z6 w0 ++ (wW cI cZ z9 w0 ++ (wW cI cZ z12 w0 ++ (wW cI cZ z15 w0 ++ (wW cI cZ z18 w0)))))))) := hD
  refine W.widen (k := 31) (n := 164) (by omega) (by omega) ?_
  refine W.eq (g2 := F0 m 38 ls [.ref (z18 0), .int (5 : Int32), .ref q1]) rfl ?_
  refine va_astq hx hb hK hP hD hS 1 2 27 3 rfl rfl rfl rfl (by unfold vp_in; decide) dX0_init_38 (fun H locs hP hD hS => ?_)
  obtain ⟨f19, ef19⟩ : ∃ y : Nat → Option Nat, y = va_up f16 ((5 : Int32)).toNatClampNeg (some (z18 0)) := ⟨_, rfl⟩
  have hP : va_P D classes ((a, .inr (0, [.ref q1, .int 0])) :: ([(q1, .inl (cW, 14, .inr (.inr (.inr (.inr f19)))))] ++ (wW cI cZ z3 w0 ++ (wW cI cZ z6 w0 ++ (wW cI cZ z9 w0 ++ (wW cI cZ z12 w0 ++ (wW cI cZ z15 w0 ++ (wW cI cZ z18 w0)))))))) H := by rw [ef19]; exact hP
  have hD : va_D A ((a, .inr (0, [.ref q1, .int 0])) :: ([(q1, .inl (cW, 14, .inr (.inr (.inr (.inr f19)))))] ++ (wW cI cZ z3 w0 ++ (wW cI cZ z6 w0 ++ (wW cI cZ z9 w0 ++ (wW cI cZ z12 w0 ++ (wW cI cZ z15 w0 ++ (wW cI cZ z18 w0)))))))) := by rw [ef19]; exact hD
  refine W.eq (g2 := F0 m 39 ls []) rfl ?_
  refine lv_iinc (v := (6 : Int32)) (lv' := [(1, .int (6 : Int32)), (0, .ref a)]) hx hb dX0_init_39 hl (k := 0) rfl (by decide) (by decide) rfl (fun ls hl => ?_)
  refine lv_goto (tgt := 20) hx hb dX0_init_42 (by decide) ?_
  refine lv_iload_n hx hb dX0_init_20 rfl (lv_at hl 0 rfl) ?_
  refine lv_bipush (v := (14 : Int32)) hx hb dX0_init_21 (by decide) ?_
  refine lv_icmp_ge (tgt := 45) hx hb dX0_init_23 (by decide) (fun h => absurd h (by decide)) (fun _ => ?_)
  refine lv_aload_n hx hb dX0_init_26 rfl (lv_at hl 1 rfl) ?_
  refine va_get (D := D) (ci := 0) (v := .ref q1) (C := RX0) (T := TX0) (N := 2) hx hb ht inX0 hown hK hP 0 rfl rfl 0 (by decide) (ht _ tw_124) (fun _ h9 => h9) rfl dX0_init_27 ?_
  refine lv_iload_n hx hb dX0_init_30 rfl (lv_at hl 0 rfl) ?_
  refine va_new (ci := 3) (fs := [.null, .null, .null, .null, .int 0, .int 0]) (C := RX5) (T := TX5) (N := 6) hx hb ht inX5 tyX5 tyX5_ok hown (ht _ tw_121) (ht _ tw_85) (ht _ tw_4) hK hP hD hS hA rfl (fun j hj => by rcases (show j = 0 ∨ j = 1 ∨ j = 2 ∨ j = 3 ∨ j = 4 ∨ j = 5 by omega) with rfl | rfl | rfl | rfl | rfl | rfl <;> rfl) (Nat.le_of_ble_eq_true rfl) (Nat.le_of_ble_eq_true rfl) dX0_init_31 (fun q20 H hP hD hS => ?_)
  simp only [List.append_assoc, List.cons_append, List.nil_append] at hP hD
  have hP : va_P D classes ((a, .inr (0, [.ref q1, .int 0])) :: ([(q1, .inl (cW, 14, .inr (.inr (.inr (.inr f19)))))] ++ (wW cI cZ z3 w0 ++ (wW cI cZ z6 w0 ++ (wW cI cZ z9 w0 ++ (wW cI cZ z12 w0 ++ (wW cI cZ z15 w0 ++ (wW cI cZ z18 w0 ++ ([(q20, .inr (3, [.null, .null, .null, .null, .int 0, .int 0]))]))))))))) H := hP
  have hD : va_D A ((a, .inr (0, [.ref q1, .int 0])) :: ([(q1, .inl (cW, 14, .inr (.inr (.inr (.inr f19)))))] ++ (wW cI cZ z3 w0 ++ (wW cI cZ z6 w0 ++ (wW cI cZ z9 w0 ++ (wW cI cZ z12 w0 ++ (wW cI cZ z15 w0 ++ (wW cI cZ z18 w0 ++ ([(q20, .inr (3, [.null, .null, .null, .null, .int 0, .int 0]))]))))))))) := hD
  refine W.widen (k := 32) (n := 170) (by omega) (by omega) ?_
  refine W.eq (g2 := F0 m 34 ls [.ref q20, .int (6 : Int32), .ref q1]) rfl ?_
  refine lv_dup hx hb dX0_init_34 rfl ?_
  have hPx : va_P D classes (((a, .inr (0, [.ref q1, .int 0])) :: ([(q1, .inl (cW, 14, .inr (.inr (.inr (.inr f19)))))] ++ (wW cI cZ z3 w0 ++ (wW cI cZ z6 w0 ++ (wW cI cZ z9 w0 ++ (wW cI cZ z12 w0 ++ (wW cI cZ z15 w0 ++ (wW cI cZ z18 w0)))))))) ++ [(q20, .inr (3, [.null, .null, .null, .null, .int 0, .int 0]))]) H := by simpa only [List.append_assoc, List.cons_append, List.nil_append] using hP
  have hDx : va_D A (((a, .inr (0, [.ref q1, .int 0])) :: ([(q1, .inl (cW, 14, .inr (.inr (.inr (.inr f19)))))] ++ (wW cI cZ z3 w0 ++ (wW cI cZ z6 w0 ++ (wW cI cZ z9 w0 ++ (wW cI cZ z12 w0 ++ (wW cI cZ z15 w0 ++ (wW cI cZ z18 w0)))))))) ++ [(q20, .inr (3, [.null, .null, .null, .null, .int 0, .int 0]))]) := by simpa only [List.append_assoc, List.cons_append, List.nil_append] using hD
  have hPc := P_suf hPx
  have hDc := D_suf hDx
  have hFc := va_freeX hDc hS hA
  refine va_callv (va_runI (As := []) (rest := [.ref q20, .int (6 : Int32), .ref q1]) ⟨hx, hb, hml, hown, hts⟩ (c_X5_init l D cI cZ cW H.size q20) ⟨callB_of 0 hts (gA tw_88) rfl rfl rfl (ht _ tw_4) (ht _ tw_123) hd_X5_init ⟨Nat.le_of_ble_eq_true rfl, Nat.le_of_ble_eq_true rfl⟩, rfl, ht _ tw_87⟩ ⟨PW_blind, fun U hU hW => PW_mk hPc hDc hK hU hW⟩ rfl rfl hl.1 rfl (lv_room (Nat.le_of_ble_eq_true rfl)) dX0_init_35 ⟨Nat.le_of_ble_eq_true rfl, Nat.le_of_ble_eq_true rfl⟩) hS (fun q _ h => hFc q h) hFc (fun u t H1 locs ht1 hvm hf hB hz1 hk1 hS => ?_)
  obtain ⟨z21, rfl⟩ : ∃ z, z = u := ⟨_, rfl⟩
  obtain ⟨hB, hDB⟩ := hB
  rw [ht1] at hB
  obtain ⟨hPn, hDn⟩ := cjM hPx hDx hFc hk1 hB hDB
  clear hP hD hPx hDx hPc hDc hFc hk1 hB hDB
  subst hf
  have hP := hPn
  have hD := hDn
  clear hPn hDn
  generalize H1 = H at hP hS ⊢
  simp only [List.append_assoc, List.cons_append, List.nil_append] at hP hD
  have hP : va_P D classes ((a, .inr (0, [.ref q1, .int 0])) :: ([(q1, .inl (cW, 14, .inr (.inr (.inr (.inr f19)))))] ++ (wW cI cZ z3 w0 ++ (wW cI cZ z6 w0 ++ (wW cI cZ z9 w0 ++ (wW cI cZ z12 w0 ++ (wW cI cZ z15 w0 ++ (wW cI cZ z18 w0 ++ (wW cI cZ z21 w0))))))))) H := hP
  have hD : va_D A ((a, .inr (0, [.ref q1, .int 0])) :: ([(q1, .inl (cW, 14, .inr (.inr (.inr (.inr f19)))))] ++ (wW cI cZ z3 w0 ++ (wW cI cZ z6 w0 ++ (wW cI cZ z9 w0 ++ (wW cI cZ z12 w0 ++ (wW cI cZ z15 w0 ++ (wW cI cZ z18 w0 ++ (wW cI cZ z21 w0))))))))) := hD
  refine W.widen (k := 36) (n := 189) (by omega) (by omega) ?_
  refine W.eq (g2 := F0 m 38 ls [.ref (z21 0), .int (6 : Int32), .ref q1]) rfl ?_
  refine va_astq hx hb hK hP hD hS 1 2 32 3 rfl rfl rfl rfl (by unfold vp_in; decide) dX0_init_38 (fun H locs hP hD hS => ?_)
  obtain ⟨f22, ef22⟩ : ∃ y : Nat → Option Nat, y = va_up f19 ((6 : Int32)).toNatClampNeg (some (z21 0)) := ⟨_, rfl⟩
  have hP : va_P D classes ((a, .inr (0, [.ref q1, .int 0])) :: ([(q1, .inl (cW, 14, .inr (.inr (.inr (.inr f22)))))] ++ (wW cI cZ z3 w0 ++ (wW cI cZ z6 w0 ++ (wW cI cZ z9 w0 ++ (wW cI cZ z12 w0 ++ (wW cI cZ z15 w0 ++ (wW cI cZ z18 w0 ++ (wW cI cZ z21 w0))))))))) H := by rw [ef22]; exact hP
  have hD : va_D A ((a, .inr (0, [.ref q1, .int 0])) :: ([(q1, .inl (cW, 14, .inr (.inr (.inr (.inr f22)))))] ++ (wW cI cZ z3 w0 ++ (wW cI cZ z6 w0 ++ (wW cI cZ z9 w0 ++ (wW cI cZ z12 w0 ++ (wW cI cZ z15 w0 ++ (wW cI cZ z18 w0 ++ (wW cI cZ z21 w0))))))))) := by rw [ef22]; exact hD
  refine W.eq (g2 := F0 m 39 ls []) rfl ?_
  refine lv_iinc (v := (7 : Int32)) (lv' := [(1, .int (7 : Int32)), (0, .ref a)]) hx hb dX0_init_39 hl (k := 0) rfl (by decide) (by decide) rfl (fun ls hl => ?_)
  refine lv_goto (tgt := 20) hx hb dX0_init_42 (by decide) ?_
  refine lv_iload_n hx hb dX0_init_20 rfl (lv_at hl 0 rfl) ?_
  refine lv_bipush (v := (14 : Int32)) hx hb dX0_init_21 (by decide) ?_
  refine lv_icmp_ge (tgt := 45) hx hb dX0_init_23 (by decide) (fun h => absurd h (by decide)) (fun _ => ?_)
  refine lv_aload_n hx hb dX0_init_26 rfl (lv_at hl 1 rfl) ?_
  refine va_get (D := D) (ci := 0) (v := .ref q1) (C := RX0) (T := TX0) (N := 2) hx hb ht inX0 hown hK hP 0 rfl rfl 0 (by decide) (ht _ tw_124) (fun _ h9 => h9) rfl dX0_init_27 ?_
  refine lv_iload_n hx hb dX0_init_30 rfl (lv_at hl 0 rfl) ?_
  refine va_new (ci := 3) (fs := [.null, .null, .null, .null, .int 0, .int 0]) (C := RX5) (T := TX5) (N := 6) hx hb ht inX5 tyX5 tyX5_ok hown (ht _ tw_121) (ht _ tw_85) (ht _ tw_4) hK hP hD hS hA rfl (fun j hj => by rcases (show j = 0 ∨ j = 1 ∨ j = 2 ∨ j = 3 ∨ j = 4 ∨ j = 5 by omega) with rfl | rfl | rfl | rfl | rfl | rfl <;> rfl) (Nat.le_of_ble_eq_true rfl) (Nat.le_of_ble_eq_true rfl) dX0_init_31 (fun q23 H hP hD hS => ?_)
  simp only [List.append_assoc, List.cons_append, List.nil_append] at hP hD
  have hP : va_P D classes ((a, .inr (0, [.ref q1, .int 0])) :: ([(q1, .inl (cW, 14, .inr (.inr (.inr (.inr f22)))))] ++ (wW cI cZ z3 w0 ++ (wW cI cZ z6 w0 ++ (wW cI cZ z9 w0 ++ (wW cI cZ z12 w0 ++ (wW cI cZ z15 w0 ++ (wW cI cZ z18 w0 ++ (wW cI cZ z21 w0 ++ ([(q23, .inr (3, [.null, .null, .null, .null, .int 0, .int 0]))])))))))))) H := hP
  have hD : va_D A ((a, .inr (0, [.ref q1, .int 0])) :: ([(q1, .inl (cW, 14, .inr (.inr (.inr (.inr f22)))))] ++ (wW cI cZ z3 w0 ++ (wW cI cZ z6 w0 ++ (wW cI cZ z9 w0 ++ (wW cI cZ z12 w0 ++ (wW cI cZ z15 w0 ++ (wW cI cZ z18 w0 ++ (wW cI cZ z21 w0 ++ ([(q23, .inr (3, [.null, .null, .null, .null, .int 0, .int 0]))])))))))))) := hD
  refine W.widen (k := 37) (n := 195) (by omega) (by omega) ?_
  refine W.eq (g2 := F0 m 34 ls [.ref q23, .int (7 : Int32), .ref q1]) rfl ?_
  refine lv_dup hx hb dX0_init_34 rfl ?_
  have hPx : va_P D classes (((a, .inr (0, [.ref q1, .int 0])) :: ([(q1, .inl (cW, 14, .inr (.inr (.inr (.inr f22)))))] ++ (wW cI cZ z3 w0 ++ (wW cI cZ z6 w0 ++ (wW cI cZ z9 w0 ++ (wW cI cZ z12 w0 ++ (wW cI cZ z15 w0 ++ (wW cI cZ z18 w0 ++ (wW cI cZ z21 w0))))))))) ++ [(q23, .inr (3, [.null, .null, .null, .null, .int 0, .int 0]))]) H := by simpa only [List.append_assoc, List.cons_append, List.nil_append] using hP
  have hDx : va_D A (((a, .inr (0, [.ref q1, .int 0])) :: ([(q1, .inl (cW, 14, .inr (.inr (.inr (.inr f22)))))] ++ (wW cI cZ z3 w0 ++ (wW cI cZ z6 w0 ++ (wW cI cZ z9 w0 ++ (wW cI cZ z12 w0 ++ (wW cI cZ z15 w0 ++ (wW cI cZ z18 w0 ++ (wW cI cZ z21 w0))))))))) ++ [(q23, .inr (3, [.null, .null, .null, .null, .int 0, .int 0]))]) := by simpa only [List.append_assoc, List.cons_append, List.nil_append] using hD
  have hPc := P_suf hPx
  have hDc := D_suf hDx
  have hFc := va_freeX hDc hS hA
  refine va_callv (va_runI (As := []) (rest := [.ref q23, .int (7 : Int32), .ref q1]) ⟨hx, hb, hml, hown, hts⟩ (c_X5_init l D cI cZ cW H.size q23) ⟨callB_of 0 hts (gA tw_88) rfl rfl rfl (ht _ tw_4) (ht _ tw_123) hd_X5_init ⟨Nat.le_of_ble_eq_true rfl, Nat.le_of_ble_eq_true rfl⟩, rfl, ht _ tw_87⟩ ⟨PW_blind, fun U hU hW => PW_mk hPc hDc hK hU hW⟩ rfl rfl hl.1 rfl (lv_room (Nat.le_of_ble_eq_true rfl)) dX0_init_35 ⟨Nat.le_of_ble_eq_true rfl, Nat.le_of_ble_eq_true rfl⟩) hS (fun q _ h => hFc q h) hFc (fun u t H1 locs ht1 hvm hf hB hz1 hk1 hS => ?_)
  obtain ⟨z24, rfl⟩ : ∃ z, z = u := ⟨_, rfl⟩
  obtain ⟨hB, hDB⟩ := hB
  rw [ht1] at hB
  obtain ⟨hPn, hDn⟩ := cjM hPx hDx hFc hk1 hB hDB
  clear hP hD hPx hDx hPc hDc hFc hk1 hB hDB
  subst hf
  have hP := hPn
  have hD := hDn
  clear hPn hDn
  generalize H1 = H at hP hS ⊢
  simp only [List.append_assoc, List.cons_append, List.nil_append] at hP hD
  have hP : va_P D classes ((a, .inr (0, [.ref q1, .int 0])) :: ([(q1, .inl (cW, 14, .inr (.inr (.inr (.inr f22)))))] ++ (wW cI cZ z3 w0 ++ (wW cI cZ z6 w0 ++ (wW cI cZ z9 w0 ++ (wW cI cZ z12 w0 ++ (wW cI cZ z15 w0 ++ (wW cI cZ z18 w0 ++ (wW cI cZ z21 w0 ++ (wW cI cZ z24 w0)))))))))) H := hP
  have hD : va_D A ((a, .inr (0, [.ref q1, .int 0])) :: ([(q1, .inl (cW, 14, .inr (.inr (.inr (.inr f22)))))] ++ (wW cI cZ z3 w0 ++ (wW cI cZ z6 w0 ++ (wW cI cZ z9 w0 ++ (wW cI cZ z12 w0 ++ (wW cI cZ z15 w0 ++ (wW cI cZ z18 w0 ++ (wW cI cZ z21 w0 ++ (wW cI cZ z24 w0)))))))))) := hD
  refine W.widen (k := 41) (n := 214) (by omega) (by omega) ?_
  refine W.eq (g2 := F0 m 38 ls [.ref (z24 0), .int (7 : Int32), .ref q1]) rfl ?_
  refine va_astq hx hb hK hP hD hS 1 2 37 3 rfl rfl rfl rfl (by unfold vp_in; decide) dX0_init_38 (fun H locs hP hD hS => ?_)
  obtain ⟨f25, ef25⟩ : ∃ y : Nat → Option Nat, y = va_up f22 ((7 : Int32)).toNatClampNeg (some (z24 0)) := ⟨_, rfl⟩
  have hP : va_P D classes ((a, .inr (0, [.ref q1, .int 0])) :: ([(q1, .inl (cW, 14, .inr (.inr (.inr (.inr f25)))))] ++ (wW cI cZ z3 w0 ++ (wW cI cZ z6 w0 ++ (wW cI cZ z9 w0 ++ (wW cI cZ z12 w0 ++ (wW cI cZ z15 w0 ++ (wW cI cZ z18 w0 ++ (wW cI cZ z21 w0 ++ (wW cI cZ z24 w0)))))))))) H := by rw [ef25]; exact hP
  have hD : va_D A ((a, .inr (0, [.ref q1, .int 0])) :: ([(q1, .inl (cW, 14, .inr (.inr (.inr (.inr f25)))))] ++ (wW cI cZ z3 w0 ++ (wW cI cZ z6 w0 ++ (wW cI cZ z9 w0 ++ (wW cI cZ z12 w0 ++ (wW cI cZ z15 w0 ++ (wW cI cZ z18 w0 ++ (wW cI cZ z21 w0 ++ (wW cI cZ z24 w0)))))))))) := by rw [ef25]; exact hD
  refine W.eq (g2 := F0 m 39 ls []) rfl ?_
  refine lv_iinc (v := (8 : Int32)) (lv' := [(1, .int (8 : Int32)), (0, .ref a)]) hx hb dX0_init_39 hl (k := 0) rfl (by decide) (by decide) rfl (fun ls hl => ?_)
  refine lv_goto (tgt := 20) hx hb dX0_init_42 (by decide) ?_
  refine lv_iload_n hx hb dX0_init_20 rfl (lv_at hl 0 rfl) ?_
  refine lv_bipush (v := (14 : Int32)) hx hb dX0_init_21 (by decide) ?_
  refine lv_icmp_ge (tgt := 45) hx hb dX0_init_23 (by decide) (fun h => absurd h (by decide)) (fun _ => ?_)
  refine lv_aload_n hx hb dX0_init_26 rfl (lv_at hl 1 rfl) ?_
  refine va_get (D := D) (ci := 0) (v := .ref q1) (C := RX0) (T := TX0) (N := 2) hx hb ht inX0 hown hK hP 0 rfl rfl 0 (by decide) (ht _ tw_124) (fun _ h9 => h9) rfl dX0_init_27 ?_
  refine lv_iload_n hx hb dX0_init_30 rfl (lv_at hl 0 rfl) ?_
  refine va_new (ci := 3) (fs := [.null, .null, .null, .null, .int 0, .int 0]) (C := RX5) (T := TX5) (N := 6) hx hb ht inX5 tyX5 tyX5_ok hown (ht _ tw_121) (ht _ tw_85) (ht _ tw_4) hK hP hD hS hA rfl (fun j hj => by rcases (show j = 0 ∨ j = 1 ∨ j = 2 ∨ j = 3 ∨ j = 4 ∨ j = 5 by omega) with rfl | rfl | rfl | rfl | rfl | rfl <;> rfl) (Nat.le_of_ble_eq_true rfl) (Nat.le_of_ble_eq_true rfl) dX0_init_31 (fun q26 H hP hD hS => ?_)
  simp only [List.append_assoc, List.cons_append, List.nil_append] at hP hD
  have hP : va_P D classes ((a, .inr (0, [.ref q1, .int 0])) :: ([(q1, .inl (cW, 14, .inr (.inr (.inr (.inr f25)))))] ++ (wW cI cZ z3 w0 ++ (wW cI cZ z6 w0 ++ (wW cI cZ z9 w0 ++ (wW cI cZ z12 w0 ++ (wW cI cZ z15 w0 ++ (wW cI cZ z18 w0 ++ (wW cI cZ z21 w0 ++ (wW cI cZ z24 w0 ++ ([(q26, .inr (3, [.null, .null, .null, .null, .int 0, .int 0]))]))))))))))) H := hP
  have hD : va_D A ((a, .inr (0, [.ref q1, .int 0])) :: ([(q1, .inl (cW, 14, .inr (.inr (.inr (.inr f25)))))] ++ (wW cI cZ z3 w0 ++ (wW cI cZ z6 w0 ++ (wW cI cZ z9 w0 ++ (wW cI cZ z12 w0 ++ (wW cI cZ z15 w0 ++ (wW cI cZ z18 w0 ++ (wW cI cZ z21 w0 ++ (wW cI cZ z24 w0 ++ ([(q26, .inr (3, [.null, .null, .null, .null, .int 0, .int 0]))]))))))))))) := hD
  refine W.widen (k := 42) (n := 220) (by omega) (by omega) ?_
  refine W.eq (g2 := F0 m 34 ls [.ref q26, .int (8 : Int32), .ref q1]) rfl ?_
  refine lv_dup hx hb dX0_init_34 rfl ?_
  have hPx : va_P D classes (((a, .inr (0, [.ref q1, .int 0])) :: ([(q1, .inl (cW, 14, .inr (.inr (.inr (.inr f25)))))] ++ (wW cI cZ z3 w0 ++ (wW cI cZ z6 w0 ++ (wW cI cZ z9 w0 ++ (wW cI cZ z12 w0 ++ (wW cI cZ z15 w0 ++ (wW cI cZ z18 w0 ++ (wW cI cZ z21 w0 ++ (wW cI cZ z24 w0)))))))))) ++ [(q26, .inr (3, [.null, .null, .null, .null, .int 0, .int 0]))]) H := by simpa only [List.append_assoc, List.cons_append, List.nil_append] using hP
  have hDx : va_D A (((a, .inr (0, [.ref q1, .int 0])) :: ([(q1, .inl (cW, 14, .inr (.inr (.inr (.inr f25)))))] ++ (wW cI cZ z3 w0 ++ (wW cI cZ z6 w0 ++ (wW cI cZ z9 w0 ++ (wW cI cZ z12 w0 ++ (wW cI cZ z15 w0 ++ (wW cI cZ z18 w0 ++ (wW cI cZ z21 w0 ++ (wW cI cZ z24 w0)))))))))) ++ [(q26, .inr (3, [.null, .null, .null, .null, .int 0, .int 0]))]) := by simpa only [List.append_assoc, List.cons_append, List.nil_append] using hD
  have hPc := P_suf hPx
  have hDc := D_suf hDx
  have hFc := va_freeX hDc hS hA
  refine va_callv (va_runI (As := []) (rest := [.ref q26, .int (8 : Int32), .ref q1]) ⟨hx, hb, hml, hown, hts⟩ (c_X5_init l D cI cZ cW H.size q26) ⟨callB_of 0 hts (gA tw_88) rfl rfl rfl (ht _ tw_4) (ht _ tw_123) hd_X5_init ⟨Nat.le_of_ble_eq_true rfl, Nat.le_of_ble_eq_true rfl⟩, rfl, ht _ tw_87⟩ ⟨PW_blind, fun U hU hW => PW_mk hPc hDc hK hU hW⟩ rfl rfl hl.1 rfl (lv_room (Nat.le_of_ble_eq_true rfl)) dX0_init_35 ⟨Nat.le_of_ble_eq_true rfl, Nat.le_of_ble_eq_true rfl⟩) hS (fun q _ h => hFc q h) hFc (fun u t H1 locs ht1 hvm hf hB hz1 hk1 hS => ?_)
  obtain ⟨z27, rfl⟩ : ∃ z, z = u := ⟨_, rfl⟩
  obtain ⟨hB, hDB⟩ := hB
  rw [ht1] at hB
  obtain ⟨hPn, hDn⟩ := cjM hPx hDx hFc hk1 hB hDB
  clear hP hD hPx hDx hPc hDc hFc hk1 hB hDB
  subst hf
  have hP := hPn
  have hD := hDn
  clear hPn hDn
  generalize H1 = H at hP hS ⊢
  simp only [List.append_assoc, List.cons_append, List.nil_append] at hP hD
  have hP : va_P D classes ((a, .inr (0, [.ref q1, .int 0])) :: ([(q1, .inl (cW, 14, .inr (.inr (.inr (.inr f25)))))] ++ (wW cI cZ z3 w0 ++ (wW cI cZ z6 w0 ++ (wW cI cZ z9 w0 ++ (wW cI cZ z12 w0 ++ (wW cI cZ z15 w0 ++ (wW cI cZ z18 w0 ++ (wW cI cZ z21 w0 ++ (wW cI cZ z24 w0 ++ (wW cI cZ z27 w0))))))))))) H := hP
  have hD : va_D A ((a, .inr (0, [.ref q1, .int 0])) :: ([(q1, .inl (cW, 14, .inr (.inr (.inr (.inr f25)))))] ++ (wW cI cZ z3 w0 ++ (wW cI cZ z6 w0 ++ (wW cI cZ z9 w0 ++ (wW cI cZ z12 w0 ++ (wW cI cZ z15 w0 ++ (wW cI cZ z18 w0 ++ (wW cI cZ z21 w0 ++ (wW cI cZ z24 w0 ++ (wW cI cZ z27 w0))))))))))) := hD
  refine W.widen (k := 46) (n := 239) (by omega) (by omega) ?_
  refine W.eq (g2 := F0 m 38 ls [.ref (z27 0), .int (8 : Int32), .ref q1]) rfl ?_
  refine va_astq hx hb hK hP hD hS 1 2 42 3 rfl rfl rfl rfl (by unfold vp_in; decide) dX0_init_38 (fun H locs hP hD hS => ?_)
  obtain ⟨f28, ef28⟩ : ∃ y : Nat → Option Nat, y = va_up f25 ((8 : Int32)).toNatClampNeg (some (z27 0)) := ⟨_, rfl⟩
  have hP : va_P D classes ((a, .inr (0, [.ref q1, .int 0])) :: ([(q1, .inl (cW, 14, .inr (.inr (.inr (.inr f28)))))] ++ (wW cI cZ z3 w0 ++ (wW cI cZ z6 w0 ++ (wW cI cZ z9 w0 ++ (wW cI cZ z12 w0 ++ (wW cI cZ z15 w0 ++ (wW cI cZ z18 w0 ++ (wW cI cZ z21 w0 ++ (wW cI cZ z24 w0 ++ (wW cI cZ z27 w0))))))))))) H := by rw [ef28]; exact hP
  have hD : va_D A ((a, .inr (0, [.ref q1, .int 0])) :: ([(q1, .inl (cW, 14, .inr (.inr (.inr (.inr f28)))))] ++ (wW cI cZ z3 w0 ++ (wW cI cZ z6 w0 ++ (wW cI cZ z9 w0 ++ (wW cI cZ z12 w0 ++ (wW cI cZ z15 w0 ++ (wW cI cZ z18 w0 ++ (wW cI cZ z21 w0 ++ (wW cI cZ z24 w0 ++ (wW cI cZ z27 w0))))))))))) := by rw [ef28]; exact hD
  refine W.eq (g2 := F0 m 39 ls []) rfl ?_
  refine lv_iinc (v := (9 : Int32)) (lv' := [(1, .int (9 : Int32)), (0, .ref a)]) hx hb dX0_init_39 hl (k := 0) rfl (by decide) (by decide) rfl (fun ls hl => ?_)
  refine lv_goto (tgt := 20) hx hb dX0_init_42 (by decide) ?_
  refine lv_iload_n hx hb dX0_init_20 rfl (lv_at hl 0 rfl) ?_
  refine lv_bipush (v := (14 : Int32)) hx hb dX0_init_21 (by decide) ?_
  refine lv_icmp_ge (tgt := 45) hx hb dX0_init_23 (by decide) (fun h => absurd h (by decide)) (fun _ => ?_)
  refine lv_aload_n hx hb dX0_init_26 rfl (lv_at hl 1 rfl) ?_
  refine va_get (D := D) (ci := 0) (v := .ref q1) (C := RX0) (T := TX0) (N := 2) hx hb ht inX0 hown hK hP 0 rfl rfl 0 (by decide) (ht _ tw_124) (fun _ h9 => h9) rfl dX0_init_27 ?_
  refine lv_iload_n hx hb dX0_init_30 rfl (lv_at hl 0 rfl) ?_
  refine va_new (ci := 3) (fs := [.null, .null, .null, .null, .int 0, .int 0]) (C := RX5) (T := TX5) (N := 6) hx hb ht inX5 tyX5 tyX5_ok hown (ht _ tw_121) (ht _ tw_85) (ht _ tw_4) hK hP hD hS hA rfl (fun j hj => by rcases (show j = 0 ∨ j = 1 ∨ j = 2 ∨ j = 3 ∨ j = 4 ∨ j = 5 by omega) with rfl | rfl | rfl | rfl | rfl | rfl <;> rfl) (Nat.le_of_ble_eq_true rfl) (Nat.le_of_ble_eq_true rfl) dX0_init_31 (fun q29 H hP hD hS => ?_)
  simp only [List.append_assoc, List.cons_append, List.nil_append] at hP hD
  have hP : va_P D classes ((a, .inr (0, [.ref q1, .int 0])) :: ([(q1, .inl (cW, 14, .inr (.inr (.inr (.inr f28)))))] ++ (wW cI cZ z3 w0 ++ (wW cI cZ z6 w0 ++ (wW cI cZ z9 w0 ++ (wW cI cZ z12 w0 ++ (wW cI cZ z15 w0 ++ (wW cI cZ z18 w0 ++ (wW cI cZ z21 w0 ++ (wW cI cZ z24 w0 ++ (wW cI cZ z27 w0 ++ ([(q29, .inr (3, [.null, .null, .null, .null, .int 0, .int 0]))])))))))))))) H := hP
  have hD : va_D A ((a, .inr (0, [.ref q1, .int 0])) :: ([(q1, .inl (cW, 14, .inr (.inr (.inr (.inr f28)))))] ++ (wW cI cZ z3 w0 ++ (wW cI cZ z6 w0 ++ (wW cI cZ z9 w0 ++ (wW cI cZ z12 w0 ++ (wW cI cZ z15 w0 ++ (wW cI cZ z18 w0 ++ (wW cI cZ z21 w0 ++ (wW cI cZ z24 w0 ++ (wW cI cZ z27 w0 ++ ([(q29, .inr (3, [.null, .null, .null, .null, .int 0, .int 0]))])))))))))))) := hD
  refine W.widen (k := 47) (n := 245) (by omega) (by omega) ?_
  refine W.eq (g2 := F0 m 34 ls [.ref q29, .int (9 : Int32), .ref q1]) rfl ?_
  refine lv_dup hx hb dX0_init_34 rfl ?_
  have hPx : va_P D classes (((a, .inr (0, [.ref q1, .int 0])) :: ([(q1, .inl (cW, 14, .inr (.inr (.inr (.inr f28)))))] ++ (wW cI cZ z3 w0 ++ (wW cI cZ z6 w0 ++ (wW cI cZ z9 w0 ++ (wW cI cZ z12 w0 ++ (wW cI cZ z15 w0 ++ (wW cI cZ z18 w0 ++ (wW cI cZ z21 w0 ++ (wW cI cZ z24 w0 ++ (wW cI cZ z27 w0))))))))))) ++ [(q29, .inr (3, [.null, .null, .null, .null, .int 0, .int 0]))]) H := by simpa only [List.append_assoc, List.cons_append, List.nil_append] using hP
  have hDx : va_D A (((a, .inr (0, [.ref q1, .int 0])) :: ([(q1, .inl (cW, 14, .inr (.inr (.inr (.inr f28)))))] ++ (wW cI cZ z3 w0 ++ (wW cI cZ z6 w0 ++ (wW cI cZ z9 w0 ++ (wW cI cZ z12 w0 ++ (wW cI cZ z15 w0 ++ (wW cI cZ z18 w0 ++ (wW cI cZ z21 w0 ++ (wW cI cZ z24 w0 ++ (wW cI cZ z27 w0))))))))))) ++ [(q29, .inr (3, [.null, .null, .null, .null, .int 0, .int 0]))]) := by simpa only [List.append_assoc, List.cons_append, List.nil_append] using hD
  have hPc := P_suf hPx
  have hDc := D_suf hDx
  have hFc := va_freeX hDc hS hA
  refine va_callv (va_runI (As := []) (rest := [.ref q29, .int (9 : Int32), .ref q1]) ⟨hx, hb, hml, hown, hts⟩ (c_X5_init l D cI cZ cW H.size q29) ⟨callB_of 0 hts (gA tw_88) rfl rfl rfl (ht _ tw_4) (ht _ tw_123) hd_X5_init ⟨Nat.le_of_ble_eq_true rfl, Nat.le_of_ble_eq_true rfl⟩, rfl, ht _ tw_87⟩ ⟨PW_blind, fun U hU hW => PW_mk hPc hDc hK hU hW⟩ rfl rfl hl.1 rfl (lv_room (Nat.le_of_ble_eq_true rfl)) dX0_init_35 ⟨Nat.le_of_ble_eq_true rfl, Nat.le_of_ble_eq_true rfl⟩) hS (fun q _ h => hFc q h) hFc (fun u t H1 locs ht1 hvm hf hB hz1 hk1 hS => ?_)
  obtain ⟨z30, rfl⟩ : ∃ z, z = u := ⟨_, rfl⟩
  obtain ⟨hB, hDB⟩ := hB
  rw [ht1] at hB
  obtain ⟨hPn, hDn⟩ := cjM hPx hDx hFc hk1 hB hDB
  clear hP hD hPx hDx hPc hDc hFc hk1 hB hDB
  subst hf
  have hP := hPn
  have hD := hDn
  clear hPn hDn
  generalize H1 = H at hP hS ⊢
  simp only [List.append_assoc, List.cons_append, List.nil_append] at hP hD
  have hP : va_P D classes ((a, .inr (0, [.ref q1, .int 0])) :: ([(q1, .inl (cW, 14, .inr (.inr (.inr (.inr f28)))))] ++ (wW cI cZ z3 w0 ++ (wW cI cZ z6 w0 ++ (wW cI cZ z9 w0 ++ (wW cI cZ z12 w0 ++ (wW cI cZ z15 w0 ++ (wW cI cZ z18 w0 ++ (wW cI cZ z21 w0 ++ (wW cI cZ z24 w0 ++ (wW cI cZ z27 w0 ++ (wW cI cZ z30 w0)))))))))))) H := hP
  have hD : va_D A ((a, .inr (0, [.ref q1, .int 0])) :: ([(q1, .inl (cW, 14, .inr (.inr (.inr (.inr f28)))))] ++ (wW cI cZ z3 w0 ++ (wW cI cZ z6 w0 ++ (wW cI cZ z9 w0 ++ (wW cI cZ z12 w0 ++ (wW cI cZ z15 w0 ++ (wW cI cZ z18 w0 ++ (wW cI cZ z21 w0 ++ (wW cI cZ z24 w0 ++ (wW cI cZ z27 w0 ++ (wW cI cZ z30 w0)))))))))))) := hD
  refine W.widen (k := 51) (n := 264) (by omega) (by omega) ?_
  refine W.eq (g2 := F0 m 38 ls [.ref (z30 0), .int (9 : Int32), .ref q1]) rfl ?_
  refine va_astq hx hb hK hP hD hS 1 2 47 3 rfl rfl rfl rfl (by unfold vp_in; decide) dX0_init_38 (fun H locs hP hD hS => ?_)
  obtain ⟨f31, ef31⟩ : ∃ y : Nat → Option Nat, y = va_up f28 ((9 : Int32)).toNatClampNeg (some (z30 0)) := ⟨_, rfl⟩
  have hP : va_P D classes ((a, .inr (0, [.ref q1, .int 0])) :: ([(q1, .inl (cW, 14, .inr (.inr (.inr (.inr f31)))))] ++ (wW cI cZ z3 w0 ++ (wW cI cZ z6 w0 ++ (wW cI cZ z9 w0 ++ (wW cI cZ z12 w0 ++ (wW cI cZ z15 w0 ++ (wW cI cZ z18 w0 ++ (wW cI cZ z21 w0 ++ (wW cI cZ z24 w0 ++ (wW cI cZ z27 w0 ++ (wW cI cZ z30 w0)))))))))))) H := by rw [ef31]; exact hP
  have hD : va_D A ((a, .inr (0, [.ref q1, .int 0])) :: ([(q1, .inl (cW, 14, .inr (.inr (.inr (.inr f31)))))] ++ (wW cI cZ z3 w0 ++ (wW cI cZ z6 w0 ++ (wW cI cZ z9 w0 ++ (wW cI cZ z12 w0 ++ (wW cI cZ z15 w0 ++ (wW cI cZ z18 w0 ++ (wW cI cZ z21 w0 ++ (wW cI cZ z24 w0 ++ (wW cI cZ z27 w0 ++ (wW cI cZ z30 w0)))))))))))) := by rw [ef31]; exact hD
  refine W.eq (g2 := F0 m 39 ls []) rfl ?_
  refine lv_iinc (v := (10 : Int32)) (lv' := [(1, .int (10 : Int32)), (0, .ref a)]) hx hb dX0_init_39 hl (k := 0) rfl (by decide) (by decide) rfl (fun ls hl => ?_)
  refine lv_goto (tgt := 20) hx hb dX0_init_42 (by decide) ?_
  refine lv_iload_n hx hb dX0_init_20 rfl (lv_at hl 0 rfl) ?_
  refine lv_bipush (v := (14 : Int32)) hx hb dX0_init_21 (by decide) ?_
  refine lv_icmp_ge (tgt := 45) hx hb dX0_init_23 (by decide) (fun h => absurd h (by decide)) (fun _ => ?_)
  refine lv_aload_n hx hb dX0_init_26 rfl (lv_at hl 1 rfl) ?_
  refine va_get (D := D) (ci := 0) (v := .ref q1) (C := RX0) (T := TX0) (N := 2) hx hb ht inX0 hown hK hP 0 rfl rfl 0 (by decide) (ht _ tw_124) (fun _ h9 => h9) rfl dX0_init_27 ?_
  refine lv_iload_n hx hb dX0_init_30 rfl (lv_at hl 0 rfl) ?_
  refine va_new (ci := 3) (fs := [.null, .null, .null, .null, .int 0, .int 0]) (C := RX5) (T := TX5) (N := 6) hx hb ht inX5 tyX5 tyX5_ok hown (ht _ tw_121) (ht _ tw_85) (ht _ tw_4) hK hP hD hS hA rfl (fun j hj => by rcases (show j = 0 ∨ j = 1 ∨ j = 2 ∨ j = 3 ∨ j = 4 ∨ j = 5 by omega) with rfl | rfl | rfl | rfl | rfl | rfl <;> rfl) (Nat.le_of_ble_eq_true rfl) (Nat.le_of_ble_eq_true rfl) dX0_init_31 (fun q32 H hP hD hS => ?_)
  simp only [List.append_assoc, List.cons_append, List.nil_append] at hP hD
  have hP : va_P D classes ((a, .inr (0, [.ref q1, .int 0])) :: ([(q1, .inl (cW, 14, .inr (.inr (.inr (.inr f31)))))] ++ (wW cI cZ z3 w0 ++ (wW cI cZ z6 w0 ++ (wW cI cZ z9 w0 ++ (wW cI cZ z12 w0 ++ (wW cI cZ z15 w0 ++ (wW cI cZ z18 w0 ++ (wW cI cZ z21 w0 ++ (wW cI cZ z24 w0 ++ (wW cI cZ z27 w0 ++ (wW cI cZ z30 w0 ++ ([(q32, .inr (3, [.null, .null, .null, .null, .int 0, .int 0]))]))))))))))))) H := hP
  have hD : va_D A ((a, .inr (0, [.ref q1, .int 0])) :: ([(q1, .inl (cW, 14, .inr (.inr (.inr (.inr f31)))))] ++ (wW cI cZ z3 w0 ++ (wW cI cZ z6 w0 ++ (wW cI cZ z9 w0 ++ (wW cI cZ z12 w0 ++ (wW cI cZ z15 w0 ++ (wW cI cZ z18 w0 ++ (wW cI cZ z21 w0 ++ (wW cI cZ z24 w0 ++ (wW cI cZ z27 w0 ++ (wW cI cZ z30 w0 ++ ([(q32, .inr (3, [.null, .null, .null, .null, .int 0, .int 0]))]))))))))))))) := hD
  refine W.widen (k := 52) (n := 270) (by omega) (by omega) ?_
  refine W.eq (g2 := F0 m 34 ls [.ref q32, .int (10 : Int32), .ref q1]) rfl ?_
  refine lv_dup hx hb dX0_init_34 rfl ?_
  have hPx : va_P D classes (((a, .inr (0, [.ref q1, .int 0])) :: ([(q1, .inl (cW, 14, .inr (.inr (.inr (.inr f31)))))] ++ (wW cI cZ z3 w0 ++ (wW cI cZ z6 w0 ++ (wW cI cZ z9 w0 ++ (wW cI cZ z12 w0 ++ (wW cI cZ z15 w0 ++ (wW cI cZ z18 w0 ++ (wW cI cZ z21 w0 ++ (wW cI cZ z24 w0 ++ (wW cI cZ z27 w0 ++ (wW cI cZ z30 w0)))))))))))) ++ [(q32, .inr (3, [.null, .null, .null, .null, .int 0, .int 0]))]) H := by simpa only [List.append_assoc, List.cons_append, List.nil_append] using hP
  have hDx : va_D A (((a, .inr (0, [.ref q1, .int 0])) :: ([(q1, .inl (cW, 14, .inr (.inr (.inr (.inr f31)))))] ++ (wW cI cZ z3 w0 ++ (wW cI cZ z6 w0 ++ (wW cI cZ z9 w0 ++ (wW cI cZ z12 w0 ++ (wW cI cZ z15 w0 ++ (wW cI cZ z18 w0 ++ (wW cI cZ z21 w0 ++ (wW cI cZ z24 w0 ++ (wW cI cZ z27 w0 ++ (wW cI cZ z30 w0)))))))))))) ++ [(q32, .inr (3, [.null, .null, .null, .null, .int 0, .int 0]))]) := by simpa only [List.append_assoc, List.cons_append, List.nil_append] using hD
  have hPc := P_suf hPx
  have hDc := D_suf hDx
  have hFc := va_freeX hDc hS hA
  refine va_callv (va_runI (As := []) (rest := [.ref q32, .int (10 : Int32), .ref q1]) ⟨hx, hb, hml, hown, hts⟩ (c_X5_init l D cI cZ cW H.size q32) ⟨callB_of 0 hts (gA tw_88) rfl rfl rfl (ht _ tw_4) (ht _ tw_123) hd_X5_init ⟨Nat.le_of_ble_eq_true rfl, Nat.le_of_ble_eq_true rfl⟩, rfl, ht _ tw_87⟩ ⟨PW_blind, fun U hU hW => PW_mk hPc hDc hK hU hW⟩ rfl rfl hl.1 rfl (lv_room (Nat.le_of_ble_eq_true rfl)) dX0_init_35 ⟨Nat.le_of_ble_eq_true rfl, Nat.le_of_ble_eq_true rfl⟩) hS (fun q _ h => hFc q h) hFc (fun u t H1 locs ht1 hvm hf hB hz1 hk1 hS => ?_)
  obtain ⟨z33, rfl⟩ : ∃ z, z = u := ⟨_, rfl⟩
  obtain ⟨hB, hDB⟩ := hB
  rw [ht1] at hB
  obtain ⟨hPn, hDn⟩ := cjM hPx hDx hFc hk1 hB hDB
  clear hP hD hPx hDx hPc hDc hFc hk1 hB hDB
  subst hf
  have hP := hPn
  have hD := hDn
  clear hPn hDn
  generalize H1 = H at hP hS ⊢
  simp only [List.append_assoc, List.cons_append, List.nil_append] at hP hD
  have hP : va_P D classes ((a, .inr (0, [.ref q1, .int 0])) :: ([(q1, .inl (cW, 14, .inr (.inr (.inr (.inr f31)))))] ++ (wW cI cZ z3 w0 ++ (wW cI cZ z6 w0 ++ (wW cI cZ z9 w0 ++ (wW cI cZ z12 w0 ++ (wW cI cZ z15 w0 ++ (wW cI cZ z18 w0 ++ (wW cI cZ z21 w0 ++ (wW cI cZ z24 w0 ++ (wW cI cZ z27 w0 ++ (wW cI cZ z30 w0 ++ (wW cI cZ z33 w0))))))))))))) H := hP
  have hD : va_D A ((a, .inr (0, [.ref q1, .int 0])) :: ([(q1, .inl (cW, 14, .inr (.inr (.inr (.inr f31)))))] ++ (wW cI cZ z3 w0 ++ (wW cI cZ z6 w0 ++ (wW cI cZ z9 w0 ++ (wW cI cZ z12 w0 ++ (wW cI cZ z15 w0 ++ (wW cI cZ z18 w0 ++ (wW cI cZ z21 w0 ++ (wW cI cZ z24 w0 ++ (wW cI cZ z27 w0 ++ (wW cI cZ z30 w0 ++ (wW cI cZ z33 w0))))))))))))) := hD
  refine W.widen (k := 56) (n := 289) (by omega) (by omega) ?_
  refine W.eq (g2 := F0 m 38 ls [.ref (z33 0), .int (10 : Int32), .ref q1]) rfl ?_
  refine va_astq hx hb hK hP hD hS 1 2 52 3 rfl rfl rfl rfl (by unfold vp_in; decide) dX0_init_38 (fun H locs hP hD hS => ?_)
  obtain ⟨f34, ef34⟩ : ∃ y : Nat → Option Nat, y = va_up f31 ((10 : Int32)).toNatClampNeg (some (z33 0)) := ⟨_, rfl⟩
  have hP : va_P D classes ((a, .inr (0, [.ref q1, .int 0])) :: ([(q1, .inl (cW, 14, .inr (.inr (.inr (.inr f34)))))] ++ (wW cI cZ z3 w0 ++ (wW cI cZ z6 w0 ++ (wW cI cZ z9 w0 ++ (wW cI cZ z12 w0 ++ (wW cI cZ z15 w0 ++ (wW cI cZ z18 w0 ++ (wW cI cZ z21 w0 ++ (wW cI cZ z24 w0 ++ (wW cI cZ z27 w0 ++ (wW cI cZ z30 w0 ++ (wW cI cZ z33 w0))))))))))))) H := by rw [ef34]; exact hP
  have hD : va_D A ((a, .inr (0, [.ref q1, .int 0])) :: ([(q1, .inl (cW, 14, .inr (.inr (.inr (.inr f34)))))] ++ (wW cI cZ z3 w0 ++ (wW cI cZ z6 w0 ++ (wW cI cZ z9 w0 ++ (wW cI cZ z12 w0 ++ (wW cI cZ z15 w0 ++ (wW cI cZ z18 w0 ++ (wW cI cZ z21 w0 ++ (wW cI cZ z24 w0 ++ (wW cI cZ z27 w0 ++ (wW cI cZ z30 w0 ++ (wW cI cZ z33 w0))))))))))))) := by rw [ef34]; exact hD
  refine W.eq (g2 := F0 m 39 ls []) rfl ?_
  refine lv_iinc (v := (11 : Int32)) (lv' := [(1, .int (11 : Int32)), (0, .ref a)]) hx hb dX0_init_39 hl (k := 0) rfl (by decide) (by decide) rfl (fun ls hl => ?_)
  refine lv_goto (tgt := 20) hx hb dX0_init_42 (by decide) ?_
  refine lv_iload_n hx hb dX0_init_20 rfl (lv_at hl 0 rfl) ?_
  refine lv_bipush (v := (14 : Int32)) hx hb dX0_init_21 (by decide) ?_
  refine lv_icmp_ge (tgt := 45) hx hb dX0_init_23 (by decide) (fun h => absurd h (by decide)) (fun _ => ?_)
  refine lv_aload_n hx hb dX0_init_26 rfl (lv_at hl 1 rfl) ?_
  refine va_get (D := D) (ci := 0) (v := .ref q1) (C := RX0) (T := TX0) (N := 2) hx hb ht inX0 hown hK hP 0 rfl rfl 0 (by decide) (ht _ tw_124) (fun _ h9 => h9) rfl dX0_init_27 ?_
  refine lv_iload_n hx hb dX0_init_30 rfl (lv_at hl 0 rfl) ?_
  refine va_new (ci := 3) (fs := [.null, .null, .null, .null, .int 0, .int 0]) (C := RX5) (T := TX5) (N := 6) hx hb ht inX5 tyX5 tyX5_ok hown (ht _ tw_121) (ht _ tw_85) (ht _ tw_4) hK hP hD hS hA rfl (fun j hj => by rcases (show j = 0 ∨ j = 1 ∨ j = 2 ∨ j = 3 ∨ j = 4 ∨ j = 5 by omega) with rfl | rfl | rfl | rfl | rfl | rfl <;> rfl) (Nat.le_of_ble_eq_true rfl) (Nat.le_of_ble_eq_true rfl) dX0_init_31 (fun q35 H hP hD hS => ?_)
  simp only [List.append_assoc, List.cons_append, List.nil_append] at hP hD
  have hP : va_P D classes ((a, .inr (0, [.ref q1, .int 0])) :: ([(q1, .inl (cW, 14, .inr (.inr (.inr (.inr f34)))))] ++ (wW cI cZ z3 w0 ++ (wW cI cZ z6 w0 ++ (wW cI cZ z9 w0 ++ (wW cI cZ z12 w0 ++ (wW cI cZ z15 w0 ++ (wW cI cZ z18 w0 ++ (wW cI cZ z21 w0 ++ (wW cI cZ z24 w0 ++ (wW cI cZ z27 w0 ++ (wW cI cZ z30 w0 ++ (wW cI cZ z33 w0 ++ ([(q35, .inr (3, [.null, .null, .null, .null, .int 0, .int 0]))])))))))))))))) H := hP
  have hD : va_D A ((a, .inr (0, [.ref q1, .int 0])) :: ([(q1, .inl (cW, 14, .inr (.inr (.inr (.inr f34)))))] ++ (wW cI cZ z3 w0 ++ (wW cI cZ z6 w0 ++ (wW cI cZ z9 w0 ++ (wW cI cZ z12 w0 ++ (wW cI cZ z15 w0 ++ (wW cI cZ z18 w0 ++ (wW cI cZ z21 w0 ++ (wW cI cZ z24 w0 ++ (wW cI cZ z27 w0 ++ (wW cI cZ z30 w0 ++ (wW cI cZ z33 w0 ++ ([(q35, .inr (3, [.null, .null, .null, .null, .int 0, .int 0]))])))))))))))))) := hD
  refine W.widen (k := 57) (n := 295) (by omega) (by omega) ?_
  refine W.eq (g2 := F0 m 34 ls [.ref q35, .int (11 : Int32), .ref q1]) rfl ?_
  refine lv_dup hx hb dX0_init_34 rfl ?_
  have hPx : va_P D classes (((a, .inr (0, [.ref q1, .int 0])) :: ([(q1, .inl (cW, 14, .inr (.inr (.inr (.inr f34)))))] ++ (wW cI cZ z3 w0 ++ (wW cI cZ z6 w0 ++ (wW cI cZ z9 w0 ++ (wW cI cZ z12 w0 ++ (wW cI cZ z15 w0 ++ (wW cI cZ z18 w0 ++ (wW cI cZ z21 w0 ++ (wW cI cZ z24 w0 ++ (wW cI cZ z27 w0 ++ (wW cI cZ z30 w0 ++ (wW cI cZ z33 w0))))))))))))) ++ [(q35, .inr (3, [.null, .null, .null, .null, .int 0, .int 0]))]) H := by simpa only [List.append_assoc, List.cons_append, List.nil_append] using hP
  have hDx : va_D A (((a, .inr (0, [.ref q1, .int 0])) :: ([(q1, .inl (cW, 14, .inr (.inr (.inr (.inr f34)))))] ++ (wW cI cZ z3 w0 ++ (wW cI cZ z6 w0 ++ (wW cI cZ z9 w0 ++ (wW cI cZ z12 w0 ++ (wW cI cZ z15 w0 ++ (wW cI cZ z18 w0 ++ (wW cI cZ z21 w0 ++ (wW cI cZ z24 w0 ++ (wW cI cZ z27 w0 ++ (wW cI cZ z30 w0 ++ (wW cI cZ z33 w0))))))))))))) ++ [(q35, .inr (3, [.null, .null, .null, .null, .int 0, .int 0]))]) := by simpa only [List.append_assoc, List.cons_append, List.nil_append] using hD
  have hPc := P_suf hPx
  have hDc := D_suf hDx
  have hFc := va_freeX hDc hS hA
  refine va_callv (va_runI (As := []) (rest := [.ref q35, .int (11 : Int32), .ref q1]) ⟨hx, hb, hml, hown, hts⟩ (c_X5_init l D cI cZ cW H.size q35) ⟨callB_of 0 hts (gA tw_88) rfl rfl rfl (ht _ tw_4) (ht _ tw_123) hd_X5_init ⟨Nat.le_of_ble_eq_true rfl, Nat.le_of_ble_eq_true rfl⟩, rfl, ht _ tw_87⟩ ⟨PW_blind, fun U hU hW => PW_mk hPc hDc hK hU hW⟩ rfl rfl hl.1 rfl (lv_room (Nat.le_of_ble_eq_true rfl)) dX0_init_35 ⟨Nat.le_of_ble_eq_true rfl, Nat.le_of_ble_eq_true rfl⟩) hS (fun q _ h => hFc q h) hFc (fun u t H1 locs ht1 hvm hf hB hz1 hk1 hS => ?_)
  obtain ⟨z36, rfl⟩ : ∃ z, z = u := ⟨_, rfl⟩
  obtain ⟨hB, hDB⟩ := hB
  rw [ht1] at hB
  obtain ⟨hPn, hDn⟩ := cjM hPx hDx hFc hk1 hB hDB
  clear hP hD hPx hDx hPc hDc hFc hk1 hB hDB
  subst hf
  have hP := hPn
  have hD := hDn
  clear hPn hDn
  generalize H1 = H at hP hS ⊢
  simp only [List.append_assoc, List.cons_append, List.nil_append] at hP hD
  have hP : va_P D classes ((a, .inr (0, [.ref q1, .int 0])) :: ([(q1, .inl (cW, 14, .inr (.inr (.inr (.inr f34)))))] ++ (wW cI cZ z3 w0 ++ (wW cI cZ z6 w0 ++ (wW cI cZ z9 w0 ++ (wW cI cZ z12 w0 ++ (wW cI cZ z15 w0 ++ (wW cI cZ z18 w0 ++ (wW cI cZ z21 w0 ++ (wW cI cZ z24 w0 ++ (wW cI cZ z27 w0 ++ (wW cI cZ z30 w0 ++ (wW cI cZ z33 w0 ++ (wW cI cZ z36 w0)))))))))))))) H := hP
  have hD : va_D A ((a, .inr (0, [.ref q1, .int 0])) :: ([(q1, .inl (cW, 14, .inr (.inr (.inr (.inr f34)))))] ++ (wW cI cZ z3 w0 ++ (wW cI cZ z6 w0 ++ (wW cI cZ z9 w0 ++ (wW cI cZ z12 w0 ++ (wW cI cZ z15 w0 ++ (wW cI cZ z18 w0 ++ (wW cI cZ z21 w0 ++ (wW cI cZ z24 w0 ++ (wW cI cZ z27 w0 ++ (wW cI cZ z30 w0 ++ (wW cI cZ z33 w0 ++ (wW cI cZ z36 w0)))))))))))))) := hD
  refine W.widen (k := 61) (n := 314) (by omega) (by omega) ?_
  refine W.eq (g2 := F0 m 38 ls [.ref (z36 0), .int (11 : Int32), .ref q1]) rfl ?_
  refine va_astq hx hb hK hP hD hS 1 2 57 3 rfl rfl rfl rfl (by unfold vp_in; decide) dX0_init_38 (fun H locs hP hD hS => ?_)
  obtain ⟨f37, ef37⟩ : ∃ y : Nat → Option Nat, y = va_up f34 ((11 : Int32)).toNatClampNeg (some (z36 0)) := ⟨_, rfl⟩
  have hP : va_P D classes ((a, .inr (0, [.ref q1, .int 0])) :: ([(q1, .inl (cW, 14, .inr (.inr (.inr (.inr f37)))))] ++ (wW cI cZ z3 w0 ++ (wW cI cZ z6 w0 ++ (wW cI cZ z9 w0 ++ (wW cI cZ z12 w0 ++ (wW cI cZ z15 w0 ++ (wW cI cZ z18 w0 ++ (wW cI cZ z21 w0 ++ (wW cI cZ z24 w0 ++ (wW cI cZ z27 w0 ++ (wW cI cZ z30 w0 ++ (wW cI cZ z33 w0 ++ (wW cI cZ z36 w0)))))))))))))) H := by rw [ef37]; exact hP
  have hD : va_D A ((a, .inr (0, [.ref q1, .int 0])) :: ([(q1, .inl (cW, 14, .inr (.inr (.inr (.inr f37)))))] ++ (wW cI cZ z3 w0 ++ (wW cI cZ z6 w0 ++ (wW cI cZ z9 w0 ++ (wW cI cZ z12 w0 ++ (wW cI cZ z15 w0 ++ (wW cI cZ z18 w0 ++ (wW cI cZ z21 w0 ++ (wW cI cZ z24 w0 ++ (wW cI cZ z27 w0 ++ (wW cI cZ z30 w0 ++ (wW cI cZ z33 w0 ++ (wW cI cZ z36 w0)))))))))))))) := by rw [ef37]; exact hD
  refine W.eq (g2 := F0 m 39 ls []) rfl ?_
  refine lv_iinc (v := (12 : Int32)) (lv' := [(1, .int (12 : Int32)), (0, .ref a)]) hx hb dX0_init_39 hl (k := 0) rfl (by decide) (by decide) rfl (fun ls hl => ?_)
  refine lv_goto (tgt := 20) hx hb dX0_init_42 (by decide) ?_
  refine lv_iload_n hx hb dX0_init_20 rfl (lv_at hl 0 rfl) ?_
  refine lv_bipush (v := (14 : Int32)) hx hb dX0_init_21 (by decide) ?_
  refine lv_icmp_ge (tgt := 45) hx hb dX0_init_23 (by decide) (fun h => absurd h (by decide)) (fun _ => ?_)
  refine lv_aload_n hx hb dX0_init_26 rfl (lv_at hl 1 rfl) ?_
  refine va_get (D := D) (ci := 0) (v := .ref q1) (C := RX0) (T := TX0) (N := 2) hx hb ht inX0 hown hK hP 0 rfl rfl 0 (by decide) (ht _ tw_124) (fun _ h9 => h9) rfl dX0_init_27 ?_
  refine lv_iload_n hx hb dX0_init_30 rfl (lv_at hl 0 rfl) ?_
  refine va_new (ci := 3) (fs := [.null, .null, .null, .null, .int 0, .int 0]) (C := RX5) (T := TX5) (N := 6) hx hb ht inX5 tyX5 tyX5_ok hown (ht _ tw_121) (ht _ tw_85) (ht _ tw_4) hK hP hD hS hA rfl (fun j hj => by rcases (show j = 0 ∨ j = 1 ∨ j = 2 ∨ j = 3 ∨ j = 4 ∨ j = 5 by omega) with rfl | rfl | rfl | rfl | rfl | rfl <;> rfl) (Nat.le_of_ble_eq_true rfl) (Nat.le_of_ble_eq_true rfl) dX0_init_31 (fun q38 H hP hD hS => ?_)
  simp only [List.append_assoc, List.cons_append, List.nil_append] at hP hD
  have hP : va_P D classes ((a, .inr (0, [.ref q1, .int 0])) :: ([(q1, .inl (cW, 14, .inr (.inr (.inr (.inr f37)))))] ++ (wW cI cZ z3 w0 ++ (wW cI cZ z6 w0 ++ (wW cI cZ z9 w0 ++ (wW cI cZ z12 w0 ++ (wW cI cZ z15 w0 ++ (wW cI cZ z18 w0 ++ (wW cI cZ z21 w0 ++ (wW cI cZ z24 w0 ++ (wW cI cZ z27 w0 ++ (wW cI cZ z30 w0 ++ (wW cI cZ z33 w0 ++ (wW cI cZ z36 w0 ++ ([(q38, .inr (3, [.null, .null, .null, .null, .int 0, .int 0]))]))))))))))))))) H := hP
  have hD : va_D A ((a, .inr (0, [.ref q1, .int 0])) :: ([(q1, .inl (cW, 14, .inr (.inr (.inr (.inr f37)))))] ++ (wW cI cZ z3 w0 ++ (wW cI cZ z6 w0 ++ (wW cI cZ z9 w0 ++ (wW cI cZ z12 w0 ++ (wW cI cZ z15 w0 ++ (wW cI cZ z18 w0 ++ (wW cI cZ z21 w0 ++ (wW cI cZ z24 w0 ++ (wW cI cZ z27 w0 ++ (wW cI cZ z30 w0 ++ (wW cI cZ z33 w0 ++ (wW cI cZ z36 w0 ++ ([(q38, .inr (3, [.null, .null, .null, .null, .int 0, .int 0]))]))))))))))))))) := hD
  refine W.widen (k := 62) (n := 320) (by omega) (by omega) ?_
  refine W.eq (g2 := F0 m 34 ls [.ref q38, .int (12 : Int32), .ref q1]) rfl ?_
  refine lv_dup hx hb dX0_init_34 rfl ?_
  have hPx : va_P D classes (((a, .inr (0, [.ref q1, .int 0])) :: ([(q1, .inl (cW, 14, .inr (.inr (.inr (.inr f37)))))] ++ (wW cI cZ z3 w0 ++ (wW cI cZ z6 w0 ++ (wW cI cZ z9 w0 ++ (wW cI cZ z12 w0 ++ (wW cI cZ z15 w0 ++ (wW cI cZ z18 w0 ++ (wW cI cZ z21 w0 ++ (wW cI cZ z24 w0 ++ (wW cI cZ z27 w0 ++ (wW cI cZ z30 w0 ++ (wW cI cZ z33 w0 ++ (wW cI cZ z36 w0)))))))))))))) ++ [(q38, .inr (3, [.null, .null, .null, .null, .int 0, .int 0]))]) H := by simpa only [List.append_assoc, List.cons_append, List.nil_append] using hP
  have hDx : va_D A (((a, .inr (0, [.ref q1, .int 0])) :: ([(q1, .inl (cW, 14, .inr (.inr (.inr (.inr f37)))))] ++ (wW cI cZ z3 w0 ++ (wW cI cZ z6 w0 ++ (wW cI cZ z9 w0 ++ (wW cI cZ z12 w0 ++ (wW cI cZ z15 w0 ++ (wW cI cZ z18 w0 ++ (wW cI cZ z21 w0 ++ (wW cI cZ z24 w0 ++ (wW cI cZ z27 w0 ++ (wW cI cZ z30 w0 ++ (wW cI cZ z33 w0 ++ (wW cI cZ z36 w0)))))))))))))) ++ [(q38, .inr (3, [.null, .null, .null, .null, .int 0, .int 0]))]) := by simpa only [List.append_assoc, List.cons_append, List.nil_append] using hD
  have hPc := P_suf hPx
  have hDc := D_suf hDx
  have hFc := va_freeX hDc hS hA
  refine va_callv (va_runI (As := []) (rest := [.ref q38, .int (12 : Int32), .ref q1]) ⟨hx, hb, hml, hown, hts⟩ (c_X5_init l D cI cZ cW H.size q38) ⟨callB_of 0 hts (gA tw_88) rfl rfl rfl (ht _ tw_4) (ht _ tw_123) hd_X5_init ⟨Nat.le_of_ble_eq_true rfl, Nat.le_of_ble_eq_true rfl⟩, rfl, ht _ tw_87⟩ ⟨PW_blind, fun U hU hW => PW_mk hPc hDc hK hU hW⟩ rfl rfl hl.1 rfl (lv_room (Nat.le_of_ble_eq_true rfl)) dX0_init_35 ⟨Nat.le_of_ble_eq_true rfl, Nat.le_of_ble_eq_true rfl⟩) hS (fun q _ h => hFc q h) hFc (fun u t H1 locs ht1 hvm hf hB hz1 hk1 hS => ?_)
  obtain ⟨z39, rfl⟩ : ∃ z, z = u := ⟨_, rfl⟩
  obtain ⟨hB, hDB⟩ := hB
  rw [ht1] at hB
  obtain ⟨hPn, hDn⟩ := cjM hPx hDx hFc hk1 hB hDB
  clear hP hD hPx hDx hPc hDc hFc hk1 hB hDB
  subst hf
  have hP := hPn
  have hD := hDn
  clear hPn hDn
  generalize H1 = H at hP hS ⊢
  simp only [List.append_assoc, List.cons_append, List.nil_append] at hP hD
  have hP : va_P D classes ((a, .inr (0, [.ref q1, .int 0])) :: ([(q1, .inl (cW, 14, .inr (.inr (.inr (.inr f37)))))] ++ (wW cI cZ z3 w0 ++ (wW cI cZ z6 w0 ++ (wW cI cZ z9 w0 ++ (wW cI cZ z12 w0 ++ (wW cI cZ z15 w0 ++ (wW cI cZ z18 w0 ++ (wW cI cZ z21 w0 ++ (wW cI cZ z24 w0 ++ (wW cI cZ z27 w0 ++ (wW cI cZ z30 w0 ++ (wW cI cZ z33 w0 ++ (wW cI cZ z36 w0 ++ (wW cI cZ z39 w0))))))))))))))) H := hP
  have hD : va_D A ((a, .inr (0, [.ref q1, .int 0])) :: ([(q1, .inl (cW, 14, .inr (.inr (.inr (.inr f37)))))] ++ (wW cI cZ z3 w0 ++ (wW cI cZ z6 w0 ++ (wW cI cZ z9 w0 ++ (wW cI cZ z12 w0 ++ (wW cI cZ z15 w0 ++ (wW cI cZ z18 w0 ++ (wW cI cZ z21 w0 ++ (wW cI cZ z24 w0 ++ (wW cI cZ z27 w0 ++ (wW cI cZ z30 w0 ++ (wW cI cZ z33 w0 ++ (wW cI cZ z36 w0 ++ (wW cI cZ z39 w0))))))))))))))) := hD
  refine W.widen (k := 66) (n := 339) (by omega) (by omega) ?_
  refine W.eq (g2 := F0 m 38 ls [.ref (z39 0), .int (12 : Int32), .ref q1]) rfl ?_
  refine va_astq hx hb hK hP hD hS 1 2 62 3 rfl rfl rfl rfl (by unfold vp_in; decide) dX0_init_38 (fun H locs hP hD hS => ?_)
  obtain ⟨f40, ef40⟩ : ∃ y : Nat → Option Nat, y = va_up f37 ((12 : Int32)).toNatClampNeg (some (z39 0)) := ⟨_, rfl⟩
  have hP : va_P D classes ((a, .inr (0, [.ref q1, .int 0])) :: ([(q1, .inl (cW, 14, .inr (.inr (.inr (.inr f40)))))] ++ (wW cI cZ z3 w0 ++ (wW cI cZ z6 w0 ++ (wW cI cZ z9 w0 ++ (wW cI cZ z12 w0 ++ (wW cI cZ z15 w0 ++ (wW cI cZ z18 w0 ++ (wW cI cZ z21 w0 ++ (wW cI cZ z24 w0 ++ (wW cI cZ z27 w0 ++ (wW cI cZ z30 w0 ++ (wW cI cZ z33 w0 ++ (wW cI cZ z36 w0 ++ (wW cI cZ z39 w0))))))))))))))) H := by rw [ef40]; exact hP
  have hD : va_D A ((a, .inr (0, [.ref q1, .int 0])) :: ([(q1, .inl (cW, 14, .inr (.inr (.inr (.inr f40)))))] ++ (wW cI cZ z3 w0 ++ (wW cI cZ z6 w0 ++ (wW cI cZ z9 w0 ++ (wW cI cZ z12 w0 ++ (wW cI cZ z15 w0 ++ (wW cI cZ z18 w0 ++ (wW cI cZ z21 w0 ++ (wW cI cZ z24 w0 ++ (wW cI cZ z27 w0 ++ (wW cI cZ z30 w0 ++ (wW cI cZ z33 w0 ++ (wW cI cZ z36 w0 ++ (wW cI cZ z39 w0))))))))))))))) := by rw [ef40]; exact hD
  refine W.eq (g2 := F0 m 39 ls []) rfl ?_
  refine lv_iinc (v := (13 : Int32)) (lv' := [(1, .int (13 : Int32)), (0, .ref a)]) hx hb dX0_init_39 hl (k := 0) rfl (by decide) (by decide) rfl (fun ls hl => ?_)
  refine lv_goto (tgt := 20) hx hb dX0_init_42 (by decide) ?_
  refine lv_iload_n hx hb dX0_init_20 rfl (lv_at hl 0 rfl) ?_
  refine lv_bipush (v := (14 : Int32)) hx hb dX0_init_21 (by decide) ?_
  refine lv_icmp_ge (tgt := 45) hx hb dX0_init_23 (by decide) (fun h => absurd h (by decide)) (fun _ => ?_)
  refine lv_aload_n hx hb dX0_init_26 rfl (lv_at hl 1 rfl) ?_
  refine va_get (D := D) (ci := 0) (v := .ref q1) (C := RX0) (T := TX0) (N := 2) hx hb ht inX0 hown hK hP 0 rfl rfl 0 (by decide) (ht _ tw_124) (fun _ h9 => h9) rfl dX0_init_27 ?_
  refine lv_iload_n hx hb dX0_init_30 rfl (lv_at hl 0 rfl) ?_
  refine va_new (ci := 3) (fs := [.null, .null, .null, .null, .int 0, .int 0]) (C := RX5) (T := TX5) (N := 6) hx hb ht inX5 tyX5 tyX5_ok hown (ht _ tw_121) (ht _ tw_85) (ht _ tw_4) hK hP hD hS hA rfl (fun j hj => by rcases (show j = 0 ∨ j = 1 ∨ j = 2 ∨ j = 3 ∨ j = 4 ∨ j = 5 by omega) with rfl | rfl | rfl | rfl | rfl | rfl <;> rfl) (Nat.le_of_ble_eq_true rfl) (Nat.le_of_ble_eq_true rfl) dX0_init_31 (fun q41 H hP hD hS => ?_)
  simp only [List.append_assoc, List.cons_append, List.nil_append] at hP hD
  have hP : va_P D classes ((a, .inr (0, [.ref q1, .int 0])) :: ([(q1, .inl (cW, 14, .inr (.inr (.inr (.inr f40)))))] ++ (wW cI cZ z3 w0 ++ (wW cI cZ z6 w0 ++ (wW cI cZ z9 w0 ++ (wW cI cZ z12 w0 ++ (wW cI cZ z15 w0 ++ (wW cI cZ z18 w0 ++ (wW cI cZ z21 w0 ++ (wW cI cZ z24 w0 ++ (wW cI cZ z27 w0 ++ (wW cI cZ z30 w0 ++ (wW cI cZ z33 w0 ++ (wW cI cZ z36 w0 ++ (wW cI cZ z39 w0 ++ ([(q41, .inr (3, [.null, .null, .null, .null, .int 0, .int 0]))])))))))))))))))) H := hP
  have hD : va_D A ((a, .inr (0, [.ref q1, .int 0])) :: ([(q1, .inl (cW, 14, .inr (.inr (.inr (.inr f40)))))] ++ (wW cI cZ z3 w0 ++ (wW cI cZ z6 w0 ++ (wW cI cZ z9 w0 ++ (wW cI cZ z12 w0 ++ (wW cI cZ z15 w0 ++ (wW cI cZ z18 w0 ++ (wW cI cZ z21 w0 ++ (wW cI cZ z24 w0 ++ (wW cI cZ z27 w0 ++ (wW cI cZ z30 w0 ++ (wW cI cZ z33 w0 ++ (wW cI cZ z36 w0 ++ (wW cI cZ z39 w0 ++ ([(q41, .inr (3, [.null, .null, .null, .null, .int 0, .int 0]))])))))))))))))))) := hD
  refine W.widen (k := 67) (n := 345) (by omega) (by omega) ?_
  refine W.eq (g2 := F0 m 34 ls [.ref q41, .int (13 : Int32), .ref q1]) rfl ?_
  refine lv_dup hx hb dX0_init_34 rfl ?_
  have hPx : va_P D classes (((a, .inr (0, [.ref q1, .int 0])) :: ([(q1, .inl (cW, 14, .inr (.inr (.inr (.inr f40)))))] ++ (wW cI cZ z3 w0 ++ (wW cI cZ z6 w0 ++ (wW cI cZ z9 w0 ++ (wW cI cZ z12 w0 ++ (wW cI cZ z15 w0 ++ (wW cI cZ z18 w0 ++ (wW cI cZ z21 w0 ++ (wW cI cZ z24 w0 ++ (wW cI cZ z27 w0 ++ (wW cI cZ z30 w0 ++ (wW cI cZ z33 w0 ++ (wW cI cZ z36 w0 ++ (wW cI cZ z39 w0))))))))))))))) ++ [(q41, .inr (3, [.null, .null, .null, .null, .int 0, .int 0]))]) H := by simpa only [List.append_assoc, List.cons_append, List.nil_append] using hP
  have hDx : va_D A (((a, .inr (0, [.ref q1, .int 0])) :: ([(q1, .inl (cW, 14, .inr (.inr (.inr (.inr f40)))))] ++ (wW cI cZ z3 w0 ++ (wW cI cZ z6 w0 ++ (wW cI cZ z9 w0 ++ (wW cI cZ z12 w0 ++ (wW cI cZ z15 w0 ++ (wW cI cZ z18 w0 ++ (wW cI cZ z21 w0 ++ (wW cI cZ z24 w0 ++ (wW cI cZ z27 w0 ++ (wW cI cZ z30 w0 ++ (wW cI cZ z33 w0 ++ (wW cI cZ z36 w0 ++ (wW cI cZ z39 w0))))))))))))))) ++ [(q41, .inr (3, [.null, .null, .null, .null, .int 0, .int 0]))]) := by simpa only [List.append_assoc, List.cons_append, List.nil_append] using hD
  have hPc := P_suf hPx
  have hDc := D_suf hDx
  have hFc := va_freeX hDc hS hA
  refine va_callv (va_runI (As := []) (rest := [.ref q41, .int (13 : Int32), .ref q1]) ⟨hx, hb, hml, hown, hts⟩ (c_X5_init l D cI cZ cW H.size q41) ⟨callB_of 0 hts (gA tw_88) rfl rfl rfl (ht _ tw_4) (ht _ tw_123) hd_X5_init ⟨Nat.le_of_ble_eq_true rfl, Nat.le_of_ble_eq_true rfl⟩, rfl, ht _ tw_87⟩ ⟨PW_blind, fun U hU hW => PW_mk hPc hDc hK hU hW⟩ rfl rfl hl.1 rfl (lv_room (Nat.le_of_ble_eq_true rfl)) dX0_init_35 ⟨Nat.le_of_ble_eq_true rfl, Nat.le_of_ble_eq_true rfl⟩) hS (fun q _ h => hFc q h) hFc (fun u t H1 locs ht1 hvm hf hB hz1 hk1 hS => ?_)
  obtain ⟨z42, rfl⟩ : ∃ z, z = u := ⟨_, rfl⟩
  obtain ⟨hB, hDB⟩ := hB
  rw [ht1] at hB
  obtain ⟨hPn, hDn⟩ := cjM hPx hDx hFc hk1 hB hDB
  clear hP hD hPx hDx hPc hDc hFc hk1 hB hDB
  subst hf
  have hP := hPn
  have hD := hDn
  clear hPn hDn
  generalize H1 = H at hP hS ⊢
  simp only [List.append_assoc, List.cons_append, List.nil_append] at hP hD
  have hP : va_P D classes ((a, .inr (0, [.ref q1, .int 0])) :: ([(q1, .inl (cW, 14, .inr (.inr (.inr (.inr f40)))))] ++ (wW cI cZ z3 w0 ++ (wW cI cZ z6 w0 ++ (wW cI cZ z9 w0 ++ (wW cI cZ z12 w0 ++ (wW cI cZ z15 w0 ++ (wW cI cZ z18 w0 ++ (wW cI cZ z21 w0 ++ (wW cI cZ z24 w0 ++ (wW cI cZ z27 w0 ++ (wW cI cZ z30 w0 ++ (wW cI cZ z33 w0 ++ (wW cI cZ z36 w0 ++ (wW cI cZ z39 w0 ++ (wW cI cZ z42 w0)))))))))))))))) H := hP
  have hD : va_D A ((a, .inr (0, [.ref q1, .int 0])) :: ([(q1, .inl (cW, 14, .inr (.inr (.inr (.inr f40)))))] ++ (wW cI cZ z3 w0 ++ (wW cI cZ z6 w0 ++ (wW cI cZ z9 w0 ++ (wW cI cZ z12 w0 ++ (wW cI cZ z15 w0 ++ (wW cI cZ z18 w0 ++ (wW cI cZ z21 w0 ++ (wW cI cZ z24 w0 ++ (wW cI cZ z27 w0 ++ (wW cI cZ z30 w0 ++ (wW cI cZ z33 w0 ++ (wW cI cZ z36 w0 ++ (wW cI cZ z39 w0 ++ (wW cI cZ z42 w0)))))))))))))))) := hD
  refine W.widen (k := 71) (n := 364) (by omega) (by omega) ?_
  refine W.eq (g2 := F0 m 38 ls [.ref (z42 0), .int (13 : Int32), .ref q1]) rfl ?_
  refine va_astq hx hb hK hP hD hS 1 2 67 3 rfl rfl rfl rfl (by unfold vp_in; decide) dX0_init_38 (fun H locs hP hD hS => ?_)
  obtain ⟨f43, ef43⟩ : ∃ y : Nat → Option Nat, y = va_up f40 ((13 : Int32)).toNatClampNeg (some (z42 0)) := ⟨_, rfl⟩
  have hP : va_P D classes ((a, .inr (0, [.ref q1, .int 0])) :: ([(q1, .inl (cW, 14, .inr (.inr (.inr (.inr f43)))))] ++ (wW cI cZ z3 w0 ++ (wW cI cZ z6 w0 ++ (wW cI cZ z9 w0 ++ (wW cI cZ z12 w0 ++ (wW cI cZ z15 w0 ++ (wW cI cZ z18 w0 ++ (wW cI cZ z21 w0 ++ (wW cI cZ z24 w0 ++ (wW cI cZ z27 w0 ++ (wW cI cZ z30 w0 ++ (wW cI cZ z33 w0 ++ (wW cI cZ z36 w0 ++ (wW cI cZ z39 w0 ++ (wW cI cZ z42 w0)))))))))))))))) H := by rw [ef43]; exact hP
  have hD : va_D A ((a, .inr (0, [.ref q1, .int 0])) :: ([(q1, .inl (cW, 14, .inr (.inr (.inr (.inr f43)))))] ++ (wW cI cZ z3 w0 ++ (wW cI cZ z6 w0 ++ (wW cI cZ z9 w0 ++ (wW cI cZ z12 w0 ++ (wW cI cZ z15 w0 ++ (wW cI cZ z18 w0 ++ (wW cI cZ z21 w0 ++ (wW cI cZ z24 w0 ++ (wW cI cZ z27 w0 ++ (wW cI cZ z30 w0 ++ (wW cI cZ z33 w0 ++ (wW cI cZ z36 w0 ++ (wW cI cZ z39 w0 ++ (wW cI cZ z42 w0)))))))))))))))) := by rw [ef43]; exact hD
  refine W.eq (g2 := F0 m 39 ls []) rfl ?_
  refine lv_iinc (v := (14 : Int32)) (lv' := [(1, .int (14 : Int32)), (0, .ref a)]) hx hb dX0_init_39 hl (k := 0) rfl (by decide) (by decide) rfl (fun ls hl => ?_)
  refine lv_goto (tgt := 20) hx hb dX0_init_42 (by decide) ?_
  refine lv_iload_n hx hb dX0_init_20 rfl (lv_at hl 0 rfl) ?_
  refine lv_bipush (v := (14 : Int32)) hx hb dX0_init_21 (by decide) ?_
  refine lv_icmp_ge (tgt := 45) hx hb dX0_init_23 (by decide) (fun _ => ?_) (fun h => absurd (by decide) h)
  have hh : ∀ k, k < 14 → f43 k = (a0 (fun k => if k = 0 then z3 else if k = 1 then z6 else if k = 2 then z9 else if k = 3 then z12 else if k = 4 then z15 else if k = 5 then z18 else if k = 6 then z21 else if k = 7 then z24 else if k = 8 then z27 else if k = 9 then z30 else if k = 10 then z33 else if k = 11 then z36 else if k = 12 then z39 else z42)).2.1 k := by
    intro k hk
    subst ef43 ef40 ef37 ef34 ef31 ef28 ef25 ef22 ef19 ef16 ef13 ef10 ef7 ef4
    rcases (show k = 0 ∨ k = 1 ∨ k = 2 ∨ k = 3 ∨ k = 4 ∨ k = 5 ∨ k = 6 ∨ k = 7 ∨ k = 8 ∨ k = 9 ∨ k = 10 ∨ k = 11 ∨ k = 12 ∨ k = 13 by omega) with rfl | rfl | rfl | rfl | rfl | rfl | rfl | rfl | rfl | rfl | rfl | rfl | rfl | rfl <;> rfl
  have hP := P_cell (pre := [(a, .inr (0, [.ref q1, .int 0]))]) (post := wW cI cZ z3 w0 ++ (wW cI cZ z6 w0 ++ (wW cI cZ z9 w0 ++ (wW cI cZ z12 w0 ++ (wW cI cZ z15 w0 ++ (wW cI cZ z18 w0 ++ (wW cI cZ z21 w0 ++ (wW cI cZ z24 w0 ++ (wW cI cZ z27 w0 ++ (wW cI cZ z30 w0 ++ (wW cI cZ z33 w0 ++ (wW cI cZ z36 w0 ++ (wW cI cZ z39 w0 ++ (wW cI cZ z42 w0)))))))))))))) (cell_q cW hh) hP
  have hP : va_P D classes (wA cI cZ cW (fun k => if k = 0 then a else q1) (fun k => if k = 0 then z3 else if k = 1 then z6 else if k = 2 then z9 else if k = 3 then z12 else if k = 4 then z15 else if k = 5 then z18 else if k = 6 then z21 else if k = 7 then z24 else if k = 8 then z27 else if k = 9 then z30 else if k = 10 then z33 else if k = 11 then z36 else if k = 12 then z39 else z42) (a0 (fun k => if k = 0 then z3 else if k = 1 then z6 else if k = 2 then z9 else if k = 3 then z12 else if k = 4 then z15 else if k = 5 then z18 else if k = 6 then z21 else if k = 7 then z24 else if k = 8 then z27 else if k = 9 then z30 else if k = 10 then z33 else if k = 11 then z36 else if k = 12 then z39 else z42))) H := hP
  have hD : va_D A (wA cI cZ cW (fun k => if k = 0 then a else q1) (fun k => if k = 0 then z3 else if k = 1 then z6 else if k = 2 then z9 else if k = 3 then z12 else if k = 4 then z15 else if k = 5 then z18 else if k = 6 then z21 else if k = 7 then z24 else if k = 8 then z27 else if k = 9 then z30 else if k = 10 then z33 else if k = 11 then z36 else if k = 12 then z39 else z42) (a0 (fun k => if k = 0 then z3 else if k = 1 then z6 else if k = 2 then z9 else if k = 3 then z12 else if k = 4 then z15 else if k = 5 then z18 else if k = 6 then z21 else if k = 7 then z24 else if k = 8 then z27 else if k = 9 then z30 else if k = 10 then z33 else if k = 11 then z36 else if k = 12 then z39 else z42))) := hD.same rfl
  exact W.vret hx hb hr (fun t ht hW => ⟨⟨((fun k => if k = 0 then a else q1), (fun k => if k = 0 then z3 else if k = 1 then z6 else if k = 2 then z9 else if k = 3 then z12 else if k = 4 then z15 else if k = 5 then z18 else if k = 6 then z21 else if k = 7 then z24 else if k = 8 then z27 else if k = 9 then z30 else if k = 10 then z33 else if k = 11 then z36 else if k = 12 then z39 else z42)), rfl, rfl, P_heap ht hP, hD⟩, hS.F ht⟩) hS.2.2 dX0_init_45
