theorem dX5_init_0 : decode cX5_init 0 = .ok (.aload_n 0, 1) := by decide +kernel
theorem dX5_init_1 : decode cX5_init 1 = .ok (.invokespecial 3, 3) := by decide +kernel
theorem dX5_init_4 : decode cX5_init 4 = .ok (.aload_n 0, 1) := by decide +kernel
theorem dX5_init_5 : decode cX5_init 5 = .ok (.iconst 5, 1) := by decide +kernel
theorem dX5_init_6 : decode cX5_init 6 = .ok (.newarray .int, 2) := by decide +kernel
theorem dX5_init_8 : decode cX5_init 8 = .ok (.putfield 9, 3) := by decide +kernel
theorem dX5_init_11 : decode cX5_init 11 = .ok (.aload_n 0, 1) := by decide +kernel
theorem dX5_init_12 : decode cX5_init 12 = .ok (.iconst 5, 1) := by decide +kernel
theorem dX5_init_13 : decode cX5_init 13 = .ok (.newarray .int, 2) := by decide +kernel
theorem dX5_init_15 : decode cX5_init 15 = .ok (.putfield 15, 3) := by decide +kernel
theorem dX5_init_18 : decode cX5_init 18 = .ok (.aload_n 0, 1) := by decide +kernel
theorem dX5_init_19 : decode cX5_init 19 = .ok (.iconst 5, 1) := by decide +kernel
theorem dX5_init_20 : decode cX5_init 20 = .ok (.newarray .int, 2) := by decide +kernel
theorem dX5_init_22 : decode cX5_init 22 = .ok (.putfield 18, 3) := by decide +kernel
theorem dX5_init_25 : decode cX5_init 25 = .ok (.aload_n 0, 1) := by decide +kernel
theorem dX5_init_26 : decode cX5_init 26 = .ok (.iconst 4, 1) := by decide +kernel
theorem dX5_init_27 : decode cX5_init 27 = .ok (.newarray .int, 2) := by decide +kernel
theorem dX5_init_29 : decode cX5_init 29 = .ok (.putfield 21, 3) := by decide +kernel
theorem dX5_init_32 : decode cX5_init 32 = .ok (.aload_n 0, 1) := by decide +kernel
theorem dX5_init_33 : decode cX5_init 33 = .ok (.iconst 0, 1) := by decide +kernel
theorem dX5_init_34 : decode cX5_init 34 = .ok (.putfield 24, 3) := by decide +kernel
theorem dX5_init_37 : decode cX5_init 37 = .ok (.aload_n 0, 1) := by decide +kernel
theorem dX5_init_38 : decode cX5_init 38 = .ok (.iconst 0, 1) := by decide +kernel
theorem dX5_init_39 : decode cX5_init 39 = .ok (.putfield 28, 3) := by decide +kernel
theorem dX5_init_42 : decode cX5_init 42 = .ok (.aload_n 0, 1) := by decide +kernel
theorem dX5_init_43 : decode cX5_init 43 = .ok (.getfield 15, 3) := by decide +kernel
theorem dX5_init_46 : decode cX5_init 46 = .ok (.bipush (-9), 2) := by decide +kernel
theorem dX5_init_48 : decode cX5_init 48 = .ok (.invokestatic 31, 3) := by decide +kernel
theorem dX5_init_51 : decode cX5_init 51 = .ok (.aload_n 0, 1) := by decide +kernel
theorem dX5_init_52 : decode cX5_init 52 = .ok (.getfield 18, 3) := by decide +kernel
theorem dX5_init_55 : decode cX5_init 55 = .ok (.bipush (-9), 2) := by decide +kernel
theorem dX5_init_57 : decode cX5_init 57 = .ok (.invokestatic 31, 3) := by decide +kernel
theorem dX5_init_60 : decode cX5_init 60 = .ok (.return_, 1) := by decide +kernel
set_option maxHeartbeats 8000000 in
set_option maxRecDepth 100000 in
theorem c_X5_init (l : Launch) (D : va_G) (cI cZ cW : ClassId) (sz a : Nat) : Met l yX5_init (wsA yX5_init cX5_init 1 none) ({ frames := 1, cells := 4, slots := 19, locals := 23 }) (PW D cI cZ cW [.ref a] [(a, .inr (3, [.null, .null, .null, .null, .int 0, .int 0]))] sz) (va_Qv (fun u : Nat → Nat => a = u 0) (fun u t => va_P D classes (wW cI cZ u w0) t.heap ∧ va_D (va_A [(a, .inr (3, [.null, .null, .null, .null, .int 0, .int 0]))] sz) (wW cI cZ u w0)) (va_A [(a, .inr (3, [.null, .null, .null, .null, .int 0, .int 0]))] sz)) 4 19 (va_A [(a, .inr (3, [.null, .null, .null, .null, .int 0, .int 0]))] sz) := by
  refine Met.ofW (cc := cX5_init) (maxL := 1) (ret := none) (by decide) rfl ?_
  intro p e s m args below meth c s₁ B hml hv
  obtain ⟨rfl, hsz, hP, hK, hD0⟩ := hv
  have hx := B.exec
  have hb := B.bytes
  have hr := B.returns
  have hts := atoms_spec (ws := (wsA yX5_init cX5_init 1 none)) B.pre
  have ht : ∀ w ∈ lw_g, w.before _ s = true := fun w h => hts w (List.mem_cons_of_mem _ h)
  have hown : s.vm.findClass RX5 = some m.cls := findClass_of_methodNamed B.named
  have hlocks := B.notSynchronized
  have hin : meth.name = "<init>" := (name_of_methodNamed B.named B.method).1
  subst hsz
  have hD := hD0.self (sz := s.heap.size)
  generalize hAe : va_A [(a, .inr (3, [.null, .null, .null, .null, .int 0, .int 0]))] s.heap.size = A at hD ⊢
  have hA : ∀ q : Nat, s.heap.size ≤ q → A q := fun q h => by rw [← hAe]; exact Or.inr h
  have hS : va_S A s.heap s.heap [] := va_S.rf
  have hl := lv_entry ([.ref a]) (n := 1) (Nat.le_of_ble_eq_true rfl)
  rw [lg_entry_eq]
  generalize (lg_sl ([.ref a]) ++ List.replicate (1 - (lg_sl ([.ref a])).length) Slot.unset).toArray = ls at hl ⊢
  have hl : lv_has ls 1 [(0, .ref a)] := hl
  refine lv_aload_n hx hb dX5_init_0 rfl (lv_at hl 0 rfl) ?_
  refine W.objInit hx hb hown (ht _ tw_89) (ht _ tw_19) (ht _ tw_20) rfl (by rw [hml]; exact hl.1) rfl dX5_init_1 (Nat.le_of_ble_eq_true rfl) (Nat.le_of_ble_eq_true rfl) ?_
  refine W.eq (g2 := F0 m 4 ls []) rfl ?_
  refine lv_aload_n hx hb dX5_init_4 rfl (lv_at hl 0 rfl) ?_
  refine lv_iconst (v := (5 : Int32)) hx hb dX5_init_5 (by decide) ?_
  refine va_newI (N' := 5) hx hb (ht _ tw_83) hK hP hD hS hA (by decide) rfl (by decide) (Nat.le_of_ble_eq_true rfl) (Nat.le_of_ble_eq_true rfl) dX5_init_6 (fun q1 H hP hD hS => ?_)
  simp only [List.append_assoc, List.cons_append, List.nil_append] at hP hD
  have hP : va_P D classes ((a, .inr (3, [.null, .null, .null, .null, .int 0, .int 0])) :: ([(q1, .inl (cI, 5, .inl (fun _ => 0)))])) H := hP
  have hD : va_D A ((a, .inr (3, [.null, .null, .null, .null, .int 0, .int 0])) :: ([(q1, .inl (cI, 5, .inl (fun _ => 0)))])) := hD
  refine W.widen (k := 1) (n := 5) (by omega) (by omega) ?_
  refine W.eq (g2 := F0 m 8 ls [.ref q1, .ref a]) rfl ?_
  refine va_putF (D := D) (ci := 3) (v := .ref q1) (ty := (.array .int)) (C := RX5) (T := TX5) (N := 6) hx hb ht inX5 tyX5 tyX5_ok nmX5 hown hK hP hD hS 0 rfl rfl 0 (by decide) (ht _ tw_91) (fun _ h9 => h9) rfl hin rfl (by decide +kernel) rfl rfl (Nat.le_of_ble_eq_true rfl) dX5_init_8 (fun H locs hP hD hS => ?_)
  have hP : va_P D classes ((a, .inr (3, [.ref q1, .null, .null, .null, .int 0, .int 0])) :: ([(q1, .inl (cI, 5, .inl (fun _ => 0)))])) H := hP
  have hD : va_D A ((a, .inr (3, [.ref q1, .null, .null, .null, .int 0, .int 0])) :: ([(q1, .inl (cI, 5, .inl (fun _ => 0)))])) := hD
  refine W.eq (g2 := F0 m 11 ls []) rfl ?_
  refine lv_aload_n hx hb dX5_init_11 rfl (lv_at hl 0 rfl) ?_
  refine lv_iconst (v := (5 : Int32)) hx hb dX5_init_12 (by decide) ?_
  refine va_newI (N' := 5) hx hb (ht _ tw_83) hK hP hD hS hA (by decide) rfl (by decide) (Nat.le_of_ble_eq_true rfl) (Nat.le_of_ble_eq_true rfl) dX5_init_13 (fun q2 H hP hD hS => ?_)
  simp only [List.append_assoc, List.cons_append, List.nil_append] at hP hD
  have hP : va_P D classes ((a, .inr (3, [.ref q1, .null, .null, .null, .int 0, .int 0])) :: ([(q1, .inl (cI, 5, .inl (fun _ => 0)))] ++ ([(q2, .inl (cI, 5, .inl (fun _ => 0)))]))) H := hP
  have hD : va_D A ((a, .inr (3, [.ref q1, .null, .null, .null, .int 0, .int 0])) :: ([(q1, .inl (cI, 5, .inl (fun _ => 0)))] ++ ([(q2, .inl (cI, 5, .inl (fun _ => 0)))]))) := hD
  refine W.widen (k := 2) (n := 10) (by omega) (by omega) ?_
  refine W.eq (g2 := F0 m 15 ls [.ref q2, .ref a]) rfl ?_
  refine va_putF (D := D) (ci := 3) (v := .ref q2) (ty := (.array .int)) (C := RX5) (T := TX5) (N := 6) hx hb ht inX5 tyX5 tyX5_ok nmX5 hown hK hP hD hS 0 rfl rfl 1 (by decide) (ht _ tw_92) (fun _ h9 => h9) rfl hin rfl (by decide +kernel) rfl rfl (Nat.le_of_ble_eq_true rfl) dX5_init_15 (fun H locs hP hD hS => ?_)
  have hP : va_P D classes ((a, .inr (3, [.ref q1, .ref q2, .null, .null, .int 0, .int 0])) :: ([(q1, .inl (cI, 5, .inl (fun _ => 0)))] ++ ([(q2, .inl (cI, 5, .inl (fun _ => 0)))]))) H := hP
  have hD : va_D A ((a, .inr (3, [.ref q1, .ref q2, .null, .null, .int 0, .int 0])) :: ([(q1, .inl (cI, 5, .inl (fun _ => 0)))] ++ ([(q2, .inl (cI, 5, .inl (fun _ => 0)))]))) := hD
  refine W.eq (g2 := F0 m 18 ls []) rfl ?_
  refine lv_aload_n hx hb dX5_init_18 rfl (lv_at hl 0 rfl) ?_
  refine lv_iconst (v := (5 : Int32)) hx hb dX5_init_19 (by decide) ?_
  refine va_newI (N' := 5) hx hb (ht _ tw_83) hK hP hD hS hA (by decide) rfl (by decide) (Nat.le_of_ble_eq_true rfl) (Nat.le_of_ble_eq_true rfl) dX5_init_20 (fun q3 H hP hD hS => ?_)
  simp only [List.append_assoc, List.cons_append, List.nil_append] at hP hD
  have hP : va_P D classes ((a, .inr (3, [.ref q1, .ref q2, .null, .null, .int 0, .int 0])) :: ([(q1, .inl (cI, 5, .inl (fun _ => 0)))] ++ ([(q2, .inl (cI, 5, .inl (fun _ => 0)))] ++ ([(q3, .inl (cI, 5, .inl (fun _ => 0)))])))) H := hP
  have hD : va_D A ((a, .inr (3, [.ref q1, .ref q2, .null, .null, .int 0, .int 0])) :: ([(q1, .inl (cI, 5, .inl (fun _ => 0)))] ++ ([(q2, .inl (cI, 5, .inl (fun _ => 0)))] ++ ([(q3, .inl (cI, 5, .inl (fun _ => 0)))])))) := hD
  refine W.widen (k := 3) (n := 15) (by omega) (by omega) ?_
  refine W.eq (g2 := F0 m 22 ls [.ref q3, .ref a]) rfl ?_
  refine va_putF (D := D) (ci := 3) (v := .ref q3) (ty := (.array .int)) (C := RX5) (T := TX5) (N := 6) hx hb ht inX5 tyX5 tyX5_ok nmX5 hown hK hP hD hS 0 rfl rfl 2 (by decide) (ht _ tw_94) (fun _ h9 => h9) rfl hin rfl (by decide +kernel) rfl rfl (Nat.le_of_ble_eq_true rfl) dX5_init_22 (fun H locs hP hD hS => ?_)
  have hP : va_P D classes ((a, .inr (3, [.ref q1, .ref q2, .ref q3, .null, .int 0, .int 0])) :: ([(q1, .inl (cI, 5, .inl (fun _ => 0)))] ++ ([(q2, .inl (cI, 5, .inl (fun _ => 0)))] ++ ([(q3, .inl (cI, 5, .inl (fun _ => 0)))])))) H := hP
  have hD : va_D A ((a, .inr (3, [.ref q1, .ref q2, .ref q3, .null, .int 0, .int 0])) :: ([(q1, .inl (cI, 5, .inl (fun _ => 0)))] ++ ([(q2, .inl (cI, 5, .inl (fun _ => 0)))] ++ ([(q3, .inl (cI, 5, .inl (fun _ => 0)))])))) := hD
  refine W.eq (g2 := F0 m 25 ls []) rfl ?_
  refine lv_aload_n hx hb dX5_init_25 rfl (lv_at hl 0 rfl) ?_
  refine lv_iconst (v := (4 : Int32)) hx hb dX5_init_26 (by decide) ?_
  refine va_newI (N' := 4) hx hb (ht _ tw_83) hK hP hD hS hA (by decide) rfl (by decide) (Nat.le_of_ble_eq_true rfl) (Nat.le_of_ble_eq_true rfl) dX5_init_27 (fun q4 H hP hD hS => ?_)
  simp only [List.append_assoc, List.cons_append, List.nil_append] at hP hD
  have hP : va_P D classes ((a, .inr (3, [.ref q1, .ref q2, .ref q3, .null, .int 0, .int 0])) :: ([(q1, .inl (cI, 5, .inl (fun _ => 0)))] ++ ([(q2, .inl (cI, 5, .inl (fun _ => 0)))] ++ ([(q3, .inl (cI, 5, .inl (fun _ => 0)))] ++ ([(q4, .inl (cI, 4, .inl (fun _ => 0)))]))))) H := hP
  have hD : va_D A ((a, .inr (3, [.ref q1, .ref q2, .ref q3, .null, .int 0, .int 0])) :: ([(q1, .inl (cI, 5, .inl (fun _ => 0)))] ++ ([(q2, .inl (cI, 5, .inl (fun _ => 0)))] ++ ([(q3, .inl (cI, 5, .inl (fun _ => 0)))] ++ ([(q4, .inl (cI, 4, .inl (fun _ => 0)))]))))) := hD
  refine W.widen (k := 4) (n := 19) (by omega) (by omega) ?_
  refine W.eq (g2 := F0 m 29 ls [.ref q4, .ref a]) rfl ?_
  refine va_putF (D := D) (ci := 3) (v := .ref q4) (ty := (.array .int)) (C := RX5) (T := TX5) (N := 6) hx hb ht inX5 tyX5 tyX5_ok nmX5 hown hK hP hD hS 0 rfl rfl 3 (by decide) (ht _ tw_96) (fun _ h9 => h9) rfl hin rfl (by decide +kernel) rfl rfl (Nat.le_of_ble_eq_true rfl) dX5_init_29 (fun H locs hP hD hS => ?_)
  have hP : va_P D classes ((a, .inr (3, [.ref q1, .ref q2, .ref q3, .ref q4, .int 0, .int 0])) :: ([(q1, .inl (cI, 5, .inl (fun _ => 0)))] ++ ([(q2, .inl (cI, 5, .inl (fun _ => 0)))] ++ ([(q3, .inl (cI, 5, .inl (fun _ => 0)))] ++ ([(q4, .inl (cI, 4, .inl (fun _ => 0)))]))))) H := hP
  have hD : va_D A ((a, .inr (3, [.ref q1, .ref q2, .ref q3, .ref q4, .int 0, .int 0])) :: ([(q1, .inl (cI, 5, .inl (fun _ => 0)))] ++ ([(q2, .inl (cI, 5, .inl (fun _ => 0)))] ++ ([(q3, .inl (cI, 5, .inl (fun _ => 0)))] ++ ([(q4, .inl (cI, 4, .inl (fun _ => 0)))]))))) := hD
  refine W.eq (g2 := F0 m 32 ls []) rfl ?_
  refine lv_aload_n hx hb dX5_init_32 rfl (lv_at hl 0 rfl) ?_
  refine lv_iconst (v := (0 : Int32)) hx hb dX5_init_33 (by decide) ?_
  refine va_put (D := D) (ci := 3) (v := .int (0 : Int32)) (ty := .int) (C := RX5) (T := TX5) (N := 6) hx hb ht inX5 tyX5 tyX5_ok nmX5 hown hK hP hD hS 0 rfl rfl 4 (by decide) (ht _ tw_98) (fun _ h9 => h9) rfl (by decide +kernel) rfl rfl (Nat.le_of_ble_eq_true rfl) dX5_init_34 (fun H locs hP hD hS => ?_)
  have hP : va_P D classes ((a, .inr (3, [.ref q1, .ref q2, .ref q3, .ref q4, .int 0, .int 0])) :: ([(q1, .inl (cI, 5, .inl (fun _ => 0)))] ++ ([(q2, .inl (cI, 5, .inl (fun _ => 0)))] ++ ([(q3, .inl (cI, 5, .inl (fun _ => 0)))] ++ ([(q4, .inl (cI, 4, .inl (fun _ => 0)))]))))) H := hP
  have hD : va_D A ((a, .inr (3, [.ref q1, .ref q2, .ref q3, .ref q4, .int 0, .int 0])) :: ([(q1, .inl (cI, 5, .inl (fun _ => 0)))] ++ ([(q2, .inl (cI, 5, .inl (fun _ => 0)))] ++ ([(q3, .inl (cI, 5, .inl (fun _ => 0)))] ++ ([(q4, .inl (cI, 4, .inl (fun _ => 0)))]))))) := hD
  refine W.eq (g2 := F0 m 37 ls []) rfl ?_
  refine lv_aload_n hx hb dX5_init_37 rfl (lv_at hl 0 rfl) ?_
  refine lv_iconst (v := (0 : Int32)) hx hb dX5_init_38 (by decide) ?_
  refine va_put (D := D) (ci := 3) (v := .int (0 : Int32)) (ty := .int) (C := RX5) (T := TX5) (N := 6) hx hb ht inX5 tyX5 tyX5_ok nmX5 hown hK hP hD hS 0 rfl rfl 5 (by decide) (ht _ tw_100) (fun _ h9 => h9) rfl (by decide +kernel) rfl rfl (Nat.le_of_ble_eq_true rfl) dX5_init_39 (fun H locs hP hD hS => ?_)
  have hP : va_P D classes ((a, .inr (3, [.ref q1, .ref q2, .ref q3, .ref q4, .int 0, .int 0])) :: ([(q1, .inl (cI, 5, .inl (fun _ => 0)))] ++ ([(q2, .inl (cI, 5, .inl (fun _ => 0)))] ++ ([(q3, .inl (cI, 5, .inl (fun _ => 0)))] ++ ([(q4, .inl (cI, 4, .inl (fun _ => 0)))]))))) H := hP
  have hD : va_D A ((a, .inr (3, [.ref q1, .ref q2, .ref q3, .ref q4, .int 0, .int 0])) :: ([(q1, .inl (cI, 5, .inl (fun _ => 0)))] ++ ([(q2, .inl (cI, 5, .inl (fun _ => 0)))] ++ ([(q3, .inl (cI, 5, .inl (fun _ => 0)))] ++ ([(q4, .inl (cI, 4, .inl (fun _ => 0)))]))))) := hD
  refine W.eq (g2 := F0 m 42 ls []) rfl ?_
  refine lv_aload_n hx hb dX5_init_42 rfl (lv_at hl 0 rfl) ?_
  refine va_get (D := D) (ci := 3) (v := .ref q2) (C := RX5) (T := TX5) (N := 6) hx hb ht inX5 hown hK hP 0 rfl rfl 1 (by decide) (ht _ tw_92) (fun _ h9 => h9) rfl dX5_init_43 ?_
  refine lv_bipush (v := (-9 : Int32)) hx hb dX5_init_46 (by decide) ?_
  have hPc : va_P D classes (wI cI q2 5 (fun _ => 0)) H := hP.sub [2] rfl
  have hDc : va_D A (wI cI q2 5 (fun _ => 0)) := hD.sub [2] (by decide) rfl
  have hFc := va_freeX hDc hS hA
  refine va_callv (va_runS (As := [.ref q2, .int (-9 : Int32)]) (rest := []) ⟨hx, hb, hml, hown, hts⟩ (c_J7_fill_53178 l D cI cZ cW q2 H.size (-9 : Int32) 5 (fun _ => 0) (fun z => ∀ i, i < 5 → z i = (-9 : Int32)) (fill_spec _ _ _ _ (by decide) (fun z hz => hz))) ⟨callB_of 2 hts (gA tw_29) rfl rfl rfl (ht _ tw_3) (ht _ tw_90) hd_J7_fill_53178 ⟨Nat.le_of_ble_eq_true rfl, Nat.le_of_ble_eq_true rfl⟩, ht _ tw_28⟩ ⟨PW_blind, fun U hU hW => PW_mk hPc hDc hK hU hW⟩ rfl rfl hl.1 rfl (lv_room (Nat.le_of_ble_eq_true rfl)) dX5_init_48 ⟨Nat.le_of_ble_eq_true rfl, Nat.le_of_ble_eq_true rfl⟩) hS (fun q _ h => hFc q h) hFc (fun u t H1 locs ht1 hvm hf hB hz1 hk1 hS => ?_)
  obtain ⟨f5, rfl⟩ : ∃ z, z = u := ⟨_, rfl⟩
  have ef5 := hf
  rw [ht1] at hB
  obtain ⟨hP, hD⟩ := cj [2] (wI cI q2 5 (fun _ => 0)) (wI cI q2 5 f5) hP hD rfl rfl hk1 hB
  generalize H1 = H at hP hS ⊢
  have hP : va_P D classes ((a, .inr (3, [.ref q1, .ref q2, .ref q3, .ref q4, .int 0, .int 0])) :: ([(q1, .inl (cI, 5, .inl (fun _ => 0)))] ++ ([(q2, .inl (cI, 5, .inl f5))] ++ ([(q3, .inl (cI, 5, .inl (fun _ => 0)))] ++ ([(q4, .inl (cI, 4, .inl (fun _ => 0)))]))))) H := hP
  have hD : va_D A ((a, .inr (3, [.ref q1, .ref q2, .ref q3, .ref q4, .int 0, .int 0])) :: ([(q1, .inl (cI, 5, .inl (fun _ => 0)))] ++ ([(q2, .inl (cI, 5, .inl f5))] ++ ([(q3, .inl (cI, 5, .inl (fun _ => 0)))] ++ ([(q4, .inl (cI, 4, .inl (fun _ => 0)))]))))) := hD
  refine W.widen (k := 4) (n := 19) (by omega) (by omega) ?_
  refine W.eq (g2 := F0 m 51 ls []) rfl ?_
  refine lv_aload_n hx hb dX5_init_51 rfl (lv_at hl 0 rfl) ?_
  refine va_get (D := D) (ci := 3) (v := .ref q3) (C := RX5) (T := TX5) (N := 6) hx hb ht inX5 hown hK hP 0 rfl rfl 2 (by decide) (ht _ tw_94) (fun _ h9 => h9) rfl dX5_init_52 ?_
  refine lv_bipush (v := (-9 : Int32)) hx hb dX5_init_55 (by decide) ?_
  have hPc : va_P D classes (wI cI q3 5 (fun _ => 0)) H := hP.sub [3] rfl
  have hDc : va_D A (wI cI q3 5 (fun _ => 0)) := hD.sub [3] (by decide) rfl
  have hFc := va_freeX hDc hS hA
  refine va_callv (va_runS (As := [.ref q3, .int (-9 : Int32)]) (rest := []) ⟨hx, hb, hml, hown, hts⟩ (c_J7_fill_53178 l D cI cZ cW q3 H.size (-9 : Int32) 5 (fun _ => 0) (fun z => ∀ i, i < 5 → z i = (-9 : Int32)) (fill_spec _ _ _ _ (by decide) (fun z hz => hz))) ⟨callB_of 2 hts (gA tw_29) rfl rfl rfl (ht _ tw_3) (ht _ tw_90) hd_J7_fill_53178 ⟨Nat.le_of_ble_eq_true rfl, Nat.le_of_ble_eq_true rfl⟩, ht _ tw_28⟩ ⟨PW_blind, fun U hU hW => PW_mk hPc hDc hK hU hW⟩ rfl rfl hl.1 rfl (lv_room (Nat.le_of_ble_eq_true rfl)) dX5_init_57 ⟨Nat.le_of_ble_eq_true rfl, Nat.le_of_ble_eq_true rfl⟩) hS (fun q _ h => hFc q h) hFc (fun u t H1 locs ht1 hvm hf hB hz1 hk1 hS => ?_)
  obtain ⟨f6, rfl⟩ : ∃ z, z = u := ⟨_, rfl⟩
  have ef6 := hf
  rw [ht1] at hB
  obtain ⟨hP, hD⟩ := cj [3] (wI cI q3 5 (fun _ => 0)) (wI cI q3 5 f6) hP hD rfl rfl hk1 hB
  generalize H1 = H at hP hS ⊢
  have hP : va_P D classes ((a, .inr (3, [.ref q1, .ref q2, .ref q3, .ref q4, .int 0, .int 0])) :: ([(q1, .inl (cI, 5, .inl (fun _ => 0)))] ++ ([(q2, .inl (cI, 5, .inl f5))] ++ ([(q3, .inl (cI, 5, .inl f6))] ++ ([(q4, .inl (cI, 4, .inl (fun _ => 0)))]))))) H := hP
  have hD : va_D A ((a, .inr (3, [.ref q1, .ref q2, .ref q3, .ref q4, .int 0, .int 0])) :: ([(q1, .inl (cI, 5, .inl (fun _ => 0)))] ++ ([(q2, .inl (cI, 5, .inl f5))] ++ ([(q3, .inl (cI, 5, .inl f6))] ++ ([(q4, .inl (cI, 4, .inl (fun _ => 0)))]))))) := hD
  refine W.widen (k := 4) (n := 19) (by omega) (by omega) ?_
  refine W.eq (g2 := F0 m 60 ls []) rfl ?_
  have hP : va_P D classes ((a, .inr (3, [.ref q1, .ref q2, .ref q3, .ref q4, .int 0, .int 0])) :: ([(q1, .inl (cI, 5, .inl (fun _ => 0)))] ++ ([(q2, .inl (cI, 5, .inl wfill))] ++ ([(q3, .inl (cI, 5, .inl f6))] ++ ([(q4, .inl (cI, 4, .inl (fun _ => 0)))]))))) H := P_cell (pre := [(a, .inr (3, [.ref q1, .ref q2, .ref q3, .ref q4, .int 0, .int 0])), (q1, .inl (cI, 5, .inl (fun _ => 0)))]) (post := [(q3, .inl (cI, 5, .inl f6)), (q4, .inl (cI, 4, .inl (fun _ => 0)))]) (cell_i cI (fun k hk => by rw [ef5 k hk]; rfl)) hP
  have hD : va_D A ((a, .inr (3, [.ref q1, .ref q2, .ref q3, .ref q4, .int 0, .int 0])) :: ([(q1, .inl (cI, 5, .inl (fun _ => 0)))] ++ ([(q2, .inl (cI, 5, .inl wfill))] ++ ([(q3, .inl (cI, 5, .inl f6))] ++ ([(q4, .inl (cI, 4, .inl (fun _ => 0)))]))))) := hD.same rfl
  have hP : va_P D classes ((a, .inr (3, [.ref q1, .ref q2, .ref q3, .ref q4, .int 0, .int 0])) :: ([(q1, .inl (cI, 5, .inl (fun _ => 0)))] ++ ([(q2, .inl (cI, 5, .inl wfill))] ++ ([(q3, .inl (cI, 5, .inl wfill))] ++ ([(q4, .inl (cI, 4, .inl (fun _ => 0)))]))))) H := P_cell (pre := [(a, .inr (3, [.ref q1, .ref q2, .ref q3, .ref q4, .int 0, .int 0])), (q1, .inl (cI, 5, .inl (fun _ => 0))), (q2, .inl (cI, 5, .inl wfill))]) (post := [(q4, .inl (cI, 4, .inl (fun _ => 0)))]) (cell_i cI (fun k hk => by rw [ef6 k hk]; rfl)) hP
  have hD : va_D A ((a, .inr (3, [.ref q1, .ref q2, .ref q3, .ref q4, .int 0, .int 0])) :: ([(q1, .inl (cI, 5, .inl (fun _ => 0)))] ++ ([(q2, .inl (cI, 5, .inl wfill))] ++ ([(q3, .inl (cI, 5, .inl wfill))] ++ ([(q4, .inl (cI, 4, .inl (fun _ => 0)))]))))) := hD.same rfl
  exact W.vret hx hb hr (fun t ht hW => ⟨⟨(fun k => if k = 0 then a else if k = 1 then q1 else if k = 2 then q2 else if k = 3 then q3 else q4), rfl, rfl, P_heap ht hP, hD⟩, hS.F ht⟩) hS.2.2 dX5_init_60
