theorem dX1_init_0 : decode cX1_init 0 = .ok (.aload_n 0, 1) := by decide +kernel
theorem dX1_init_1 : decode cX1_init 1 = .ok (.invokespecial 3, 3) := by decide +kernel
theorem dX1_init_4 : decode cX1_init 4 = .ok (.aload_n 0, 1) := by decide +kernel
theorem dX1_init_5 : decode cX1_init 5 = .ok (.iconst 0, 1) := by decide +kernel
theorem dX1_init_6 : decode cX1_init 6 = .ok (.putfield 9, 3) := by decide +kernel
theorem dX1_init_9 : decode cX1_init 9 = .ok (.aload_n 0, 1) := by decide +kernel
theorem dX1_init_10 : decode cX1_init 10 = .ok (.iconst 0, 1) := by decide +kernel
theorem dX1_init_11 : decode cX1_init 11 = .ok (.putfield 15, 3) := by decide +kernel
theorem dX1_init_14 : decode cX1_init 14 = .ok (.aload_n 0, 1) := by decide +kernel
theorem dX1_init_15 : decode cX1_init 15 = .ok (.iconst 4, 1) := by decide +kernel
theorem dX1_init_16 : decode cX1_init 16 = .ok (.newarray .int, 2) := by decide +kernel
theorem dX1_init_18 : decode cX1_init 18 = .ok (.putfield 18, 3) := by decide +kernel
theorem dX1_init_21 : decode cX1_init 21 = .ok (.aload_n 0, 1) := by decide +kernel
theorem dX1_init_22 : decode cX1_init 22 = .ok (.iconst 4, 1) := by decide +kernel
theorem dX1_init_23 : decode cX1_init 23 = .ok (.newarray .int, 2) := by decide +kernel
theorem dX1_init_25 : decode cX1_init 25 = .ok (.putfield 22, 3) := by decide +kernel
theorem dX1_init_28 : decode cX1_init 28 = .ok (.aload_n 0, 1) := by decide +kernel
theorem dX1_init_29 : decode cX1_init 29 = .ok (.iconst 5, 1) := by decide +kernel
theorem dX1_init_30 : decode cX1_init 30 = .ok (.newarray .int, 2) := by decide +kernel
theorem dX1_init_32 : decode cX1_init 32 = .ok (.putfield 25, 3) := by decide +kernel
theorem dX1_init_35 : decode cX1_init 35 = .ok (.aload_n 0, 1) := by decide +kernel
theorem dX1_init_36 : decode cX1_init 36 = .ok (.iconst 5, 1) := by decide +kernel
theorem dX1_init_37 : decode cX1_init 37 = .ok (.newarray .int, 2) := by decide +kernel
theorem dX1_init_39 : decode cX1_init 39 = .ok (.putfield 28, 3) := by decide +kernel
theorem dX1_init_42 : decode cX1_init 42 = .ok (.aload_n 0, 1) := by decide +kernel
theorem dX1_init_43 : decode cX1_init 43 = .ok (.iconst 5, 1) := by decide +kernel
theorem dX1_init_44 : decode cX1_init 44 = .ok (.newarray .int, 2) := by decide +kernel
theorem dX1_init_46 : decode cX1_init 46 = .ok (.putfield 31, 3) := by decide +kernel
theorem dX1_init_49 : decode cX1_init 49 = .ok (.aload_n 0, 1) := by decide +kernel
theorem dX1_init_50 : decode cX1_init 50 = .ok (.iconst 0, 1) := by decide +kernel
theorem dX1_init_51 : decode cX1_init 51 = .ok (.putfield 34, 3) := by decide +kernel
theorem dX1_init_54 : decode cX1_init 54 = .ok (.aload_n 0, 1) := by decide +kernel
theorem dX1_init_55 : decode cX1_init 55 = .ok (.iconst 0, 1) := by decide +kernel
theorem dX1_init_56 : decode cX1_init 56 = .ok (.putfield 37, 3) := by decide +kernel
theorem dX1_init_59 : decode cX1_init 59 = .ok (.aload_n 0, 1) := by decide +kernel
theorem dX1_init_60 : decode cX1_init 60 = .ok (.iconst 0, 1) := by decide +kernel
theorem dX1_init_61 : decode cX1_init 61 = .ok (.putfield 40, 3) := by decide +kernel
theorem dX1_init_64 : decode cX1_init 64 = .ok (.aload_n 0, 1) := by decide +kernel
theorem dX1_init_65 : decode cX1_init 65 = .ok (.iconst 0, 1) := by decide +kernel
theorem dX1_init_66 : decode cX1_init 66 = .ok (.putfield 43, 3) := by decide +kernel
theorem dX1_init_69 : decode cX1_init 69 = .ok (.aload_n 0, 1) := by decide +kernel
theorem dX1_init_70 : decode cX1_init 70 = .ok (.iconst 0, 1) := by decide +kernel
theorem dX1_init_71 : decode cX1_init 71 = .ok (.putfield 46, 3) := by decide +kernel
theorem dX1_init_74 : decode cX1_init 74 = .ok (.aload_n 0, 1) := by decide +kernel
theorem dX1_init_75 : decode cX1_init 75 = .ok (.iconst 0, 1) := by decide +kernel
theorem dX1_init_76 : decode cX1_init 76 = .ok (.putfield 49, 3) := by decide +kernel
theorem dX1_init_79 : decode cX1_init 79 = .ok (.aload_n 0, 1) := by decide +kernel
theorem dX1_init_80 : decode cX1_init 80 = .ok (.iconst 0, 1) := by decide +kernel
theorem dX1_init_81 : decode cX1_init 81 = .ok (.putfield 52, 3) := by decide +kernel
theorem dX1_init_84 : decode cX1_init 84 = .ok (.aload_n 0, 1) := by decide +kernel
theorem dX1_init_85 : decode cX1_init 85 = .ok (.getfield 22, 3) := by decide +kernel
theorem dX1_init_88 : decode cX1_init 88 = .ok (.bipush (-9), 2) := by decide +kernel
theorem dX1_init_90 : decode cX1_init 90 = .ok (.invokestatic 55, 3) := by decide +kernel
theorem dX1_init_93 : decode cX1_init 93 = .ok (.aload_n 0, 1) := by decide +kernel
theorem dX1_init_94 : decode cX1_init 94 = .ok (.getfield 28, 3) := by decide +kernel
theorem dX1_init_97 : decode cX1_init 97 = .ok (.bipush (-9), 2) := by decide +kernel
theorem dX1_init_99 : decode cX1_init 99 = .ok (.invokestatic 55, 3) := by decide +kernel
theorem dX1_init_102 : decode cX1_init 102 = .ok (.return_, 1) := by decide +kernel
set_option maxHeartbeats 8000000 in
set_option maxRecDepth 100000 in
theorem c_X1_init (l : Launch) (D : va_G) (cI cZ cW : ClassId) (sz a : Nat) : Met l yX1_init (wsA yX1_init cX1_init 1 none) ({ frames := 1, cells := 5, slots := 23, locals := 23 }) (PW D cI cZ cW [.ref a] [(a, .inr (1, [.int 0, .int 0, .null, .null, .null, .null, .null, .int 0, .int 0, .int 0, .int 0, .int 0, .int 0, .int 0]))] sz) (va_Qv (fun u : Nat → Nat => a = u 0) (fun u t => va_P D classes (wD cI cZ u d0) t.heap ∧ va_D (va_A [(a, .inr (1, [.int 0, .int 0, .null, .null, .null, .null, .null, .int 0, .int 0, .int 0, .int 0, .int 0, .int 0, .int 0]))] sz) (wD cI cZ u d0)) (va_A [(a, .inr (1, [.int 0, .int 0, .null, .null, .null, .null, .null, .int 0, .int 0, .int 0, .int 0, .int 0, .int 0, .int 0]))] sz)) 5 23 (va_A [(a, .inr (1, [.int 0, .int 0, .null, .null, .null, .null, .null, .int 0, .int 0, .int 0, .int 0, .int 0, .int 0, .int 0]))] sz) := by
  refine Met.ofW (cc := cX1_init) (maxL := 1) (ret := none) (by decide) rfl ?_
  intro p e s m args below meth c s₁ B hml hv
  obtain ⟨rfl, hsz, hP, hK, hD0⟩ := hv
  have hx := B.exec
  have hb := B.bytes
  have hr := B.returns
  have hts := atoms_spec (ws := (wsA yX1_init cX1_init 1 none)) B.pre
  have ht : ∀ w ∈ lw_g, w.before _ s = true := fun w h => hts w (List.mem_cons_of_mem _ h)
  have hown : s.vm.findClass RX1 = some m.cls := findClass_of_methodNamed B.named
  have hlocks := B.notSynchronized
  have hin : meth.name = "<init>" := (name_of_methodNamed B.named B.method).1
  subst hsz
  have hD := hD0.self (sz := s.heap.size)
  generalize hAe : va_A [(a, .inr (1, [.int 0, .int 0, .null, .null, .null, .null, .null, .int 0, .int 0, .int 0, .int 0, .int 0, .int 0, .int 0]))] s.heap.size = A at hD ⊢
  have hA : ∀ q : Nat, s.heap.size ≤ q → A q := fun q h => by rw [← hAe]; exact Or.inr h
  have hS : va_S A s.heap s.heap [] := va_S.rf
  have hl := lv_entry ([.ref a]) (n := 1) (Nat.le_of_ble_eq_true rfl)
  rw [lg_entry_eq]
  generalize (lg_sl ([.ref a]) ++ List.replicate (1 - (lg_sl ([.ref a])).length) Slot.unset).toArray = ls at hl ⊢
  have hl : lv_has ls 1 [(0, .ref a)] := hl
  refine lv_aload_n hx hb dX1_init_0 rfl (lv_at hl 0 rfl) ?_
  refine W.objInit hx hb hown (ht _ tw_26) (ht _ tw_19) (ht _ tw_20) rfl (by rw [hml]; exact hl.1) rfl dX1_init_1 (Nat.le_of_ble_eq_true rfl) (Nat.le_of_ble_eq_true rfl) ?_
  refine W.eq (g2 := F0 m 4 ls []) rfl ?_
  refine lv_aload_n hx hb dX1_init_4 rfl (lv_at hl 0 rfl) ?_
  refine lv_iconst (v := (0 : Int32)) hx hb dX1_init_5 (by decide) ?_
  refine va_put (D := D) (ci := 1) (v := .int (0 : Int32)) (ty := .int) (C := RX1) (T := TX1) (N := 14) hx hb ht inX1 tyX1 tyX1_ok nmX1 hown hK hP hD hS 0 rfl rfl 0 (by decide) (ht _ tw_30) (fun _ h9 => h9) rfl (by decide +kernel) rfl rfl (Nat.le_of_ble_eq_true rfl) dX1_init_6 (fun H locs hP hD hS => ?_)
  have hP : va_P D classes [(a, .inr (1, [.int 0, .int 0, .null, .null, .null, .null, .null, .int 0, .int 0, .int 0, .int 0, .int 0, .int 0, .int 0]))] H := hP
  have hD : va_D A [(a, .inr (1, [.int 0, .int 0, .null, .null, .null, .null, .null, .int 0, .int 0, .int 0, .int 0, .int 0, .int 0, .int 0]))] := hD
  refine W.eq (g2 := F0 m 9 ls []) rfl ?_
  refine lv_aload_n hx hb dX1_init_9 rfl (lv_at hl 0 rfl) ?_
  refine lv_iconst (v := (0 : Int32)) hx hb dX1_init_10 (by decide) ?_
  refine va_put (D := D) (ci := 1) (v := .int (0 : Int32)) (ty := .int) (C := RX1) (T := TX1) (N := 14) hx hb ht inX1 tyX1 tyX1_ok nmX1 hown hK hP hD hS 0 rfl rfl 1 (by decide) (ht _ tw_32) (fun _ h9 => h9) rfl (by decide +kernel) rfl rfl (Nat.le_of_ble_eq_true rfl) dX1_init_11 (fun H locs hP hD hS => ?_)
  have hP : va_P D classes [(a, .inr (1, [.int 0, .int 0, .null, .null, .null, .null, .null, .int 0, .int 0, .int 0, .int 0, .int 0, .int 0, .int 0]))] H := hP
  have hD : va_D A [(a, .inr (1, [.int 0, .int 0, .null, .null, .null, .null, .null, .int 0, .int 0, .int 0, .int 0, .int 0, .int 0, .int 0]))] := hD
  refine W.eq (g2 := F0 m 14 ls []) rfl ?_
  refine lv_aload_n hx hb dX1_init_14 rfl (lv_at hl 0 rfl) ?_
  refine lv_iconst (v := (4 : Int32)) hx hb dX1_init_15 (by decide) ?_
  refine va_newI (N' := 4) hx hb (ht _ tw_83) hK hP hD hS hA (by decide) rfl (by decide) (Nat.le_of_ble_eq_true rfl) (Nat.le_of_ble_eq_true rfl) dX1_init_16 (fun q1 H hP hD hS => ?_)
  simp only [List.append_assoc, List.cons_append, List.nil_append] at hP hD
  have hP : va_P D classes ((a, .inr (1, [.int 0, .int 0, .null, .null, .null, .null, .null, .int 0, .int 0, .int 0, .int 0, .int 0, .int 0, .int 0])) :: ([(q1, .inl (cI, 4, .inl (fun _ => 0)))])) H := hP
  have hD : va_D A ((a, .inr (1, [.int 0, .int 0, .null, .null, .null, .null, .null, .int 0, .int 0, .int 0, .int 0, .int 0, .int 0, .int 0])) :: ([(q1, .inl (cI, 4, .inl (fun _ => 0)))])) := hD
  refine W.widen (k := 1) (n := 4) (by omega) (by omega) ?_
  refine W.eq (g2 := F0 m 18 ls [.ref q1, .ref a]) rfl ?_
  refine va_putF (D := D) (ci := 1) (v := .ref q1) (ty := (.array .int)) (C := RX1) (T := TX1) (N := 14) hx hb ht inX1 tyX1 tyX1_ok nmX1 hown hK hP hD hS 0 rfl rfl 2 (by decide) (ht _ tw_34) (fun _ h9 => h9) rfl hin rfl (by decide +kernel) rfl rfl (Nat.le_of_ble_eq_true rfl) dX1_init_18 (fun H locs hP hD hS => ?_)
  have hP : va_P D classes ((a, .inr (1, [.int 0, .int 0, .ref q1, .null, .null, .null, .null, .int 0, .int 0, .int 0, .int 0, .int 0, .int 0, .int 0])) :: ([(q1, .inl (cI, 4, .inl (fun _ => 0)))])) H := hP
  have hD : va_D A ((a, .inr (1, [.int 0, .int 0, .ref q1, .null, .null, .null, .null, .int 0, .int 0, .int 0, .int 0, .int 0, .int 0, .int 0])) :: ([(q1, .inl (cI, 4, .inl (fun _ => 0)))])) := hD
  refine W.eq (g2 := F0 m 21 ls []) rfl ?_
  refine lv_aload_n hx hb dX1_init_21 rfl (lv_at hl 0 rfl) ?_
  refine lv_iconst (v := (4 : Int32)) hx hb dX1_init_22 (by decide) ?_
  refine va_newI (N' := 4) hx hb (ht _ tw_83) hK hP hD hS hA (by decide) rfl (by decide) (Nat.le_of_ble_eq_true rfl) (Nat.le_of_ble_eq_true rfl) dX1_init_23 (fun q2 H hP hD hS => ?_)
  simp only [List.append_assoc, List.cons_append, List.nil_append] at hP hD
  have hP : va_P D classes ((a, .inr (1, [.int 0, .int 0, .ref q1, .null, .null, .null, .null, .int 0, .int 0, .int 0, .int 0, .int 0, .int 0, .int 0])) :: ([(q1, .inl (cI, 4, .inl (fun _ => 0)))] ++ ([(q2, .inl (cI, 4, .inl (fun _ => 0)))]))) H := hP
  have hD : va_D A ((a, .inr (1, [.int 0, .int 0, .ref q1, .null, .null, .null, .null, .int 0, .int 0, .int 0, .int 0, .int 0, .int 0, .int 0])) :: ([(q1, .inl (cI, 4, .inl (fun _ => 0)))] ++ ([(q2, .inl (cI, 4, .inl (fun _ => 0)))]))) := hD
  refine W.widen (k := 2) (n := 8) (by omega) (by omega) ?_
  refine W.eq (g2 := F0 m 25 ls [.ref q2, .ref a]) rfl ?_
  refine va_putF (D := D) (ci := 1) (v := .ref q2) (ty := (.array .int)) (C := RX1) (T := TX1) (N := 14) hx hb ht inX1 tyX1 tyX1_ok nmX1 hown hK hP hD hS 0 rfl rfl 3 (by decide) (ht _ tw_37) (fun _ h9 => h9) rfl hin rfl (by decide +kernel) rfl rfl (Nat.le_of_ble_eq_true rfl) dX1_init_25 (fun H locs hP hD hS => ?_)
  have hP : va_P D classes ((a, .inr (1, [.int 0, .int 0, .ref q1, .ref q2, .null, .null, .null, .int 0, .int 0, .int 0, .int 0, .int 0, .int 0, .int 0])) :: ([(q1, .inl (cI, 4, .inl (fun _ => 0)))] ++ ([(q2, .inl (cI, 4, .inl (fun _ => 0)))]))) H := hP
  have hD : va_D A ((a, .inr (1, [.int 0, .int 0, .ref q1, .ref q2, .null, .null, .null, .int 0, .int 0, .int 0, .int 0, .int 0, .int 0, .int 0])) :: ([(q1, .inl (cI, 4, .inl (fun _ => 0)))] ++ ([(q2, .inl (cI, 4, .inl (fun _ => 0)))]))) := hD
  refine W.eq (g2 := F0 m 28 ls []) rfl ?_
  refine lv_aload_n hx hb dX1_init_28 rfl (lv_at hl 0 rfl) ?_
  refine lv_iconst (v := (5 : Int32)) hx hb dX1_init_29 (by decide) ?_
  refine va_newI (N' := 5) hx hb (ht _ tw_83) hK hP hD hS hA (by decide) rfl (by decide) (Nat.le_of_ble_eq_true rfl) (Nat.le_of_ble_eq_true rfl) dX1_init_30 (fun q3 H hP hD hS => ?_)
  simp only [List.append_assoc, List.cons_append, List.nil_append] at hP hD
  have hP : va_P D classes ((a, .inr (1, [.int 0, .int 0, .ref q1, .ref q2, .null, .null, .null, .int 0, .int 0, .int 0, .int 0, .int 0, .int 0, .int 0])) :: ([(q1, .inl (cI, 4, .inl (fun _ => 0)))] ++ ([(q2, .inl (cI, 4, .inl (fun _ => 0)))] ++ ([(q3, .inl (cI, 5, .inl (fun _ => 0)))])))) H := hP
  have hD : va_D A ((a, .inr (1, [.int 0, .int 0, .ref q1, .ref q2, .null, .null, .null, .int 0, .int 0, .int 0, .int 0, .int 0, .int 0, .int 0])) :: ([(q1, .inl (cI, 4, .inl (fun _ => 0)))] ++ ([(q2, .inl (cI, 4, .inl (fun _ => 0)))] ++ ([(q3, .inl (cI, 5, .inl (fun _ => 0)))])))) := hD
  refine W.widen (k := 3) (n := 13) (by omega) (by omega) ?_
  refine W.eq (g2 := F0 m 32 ls [.ref q3, .ref a]) rfl ?_
  refine va_putF (D := D) (ci := 1) (v := .ref q3) (ty := (.array .int)) (C := RX1) (T := TX1) (N := 14) hx hb ht inX1 tyX1 tyX1_ok nmX1 hown hK hP hD hS 0 rfl rfl 4 (by decide) (ht _ tw_39) (fun _ h9 => h9) rfl hin rfl (by decide +kernel) rfl rfl (Nat.le_of_ble_eq_true rfl) dX1_init_32 (fun H locs hP hD hS => ?_)
  have hP : va_P D classes ((a, .inr (1, [.int 0, .int 0, .ref q1, .ref q2, .ref q3, .null, .null, .int 0, .int 0, .int 0, .int 0, .int 0, .int 0, .int 0])) :: ([(q1, .inl (cI, 4, .inl (fun _ => 0)))] ++ ([(q2, .inl (cI, 4, .inl (fun _ => 0)))] ++ ([(q3, .inl (cI, 5, .inl (fun _ => 0)))])))) H := hP
  have hD : va_D A ((a, .inr (1, [.int 0, .int 0, .ref q1, .ref q2, .ref q3, .null, .null, .int 0, .int 0, .int 0, .int 0, .int 0, .int 0, .int 0])) :: ([(q1, .inl (cI, 4, .inl (fun _ => 0)))] ++ ([(q2, .inl (cI, 4, .inl (fun _ => 0)))] ++ ([(q3, .inl (cI, 5, .inl (fun _ => 0)))])))) := hD
  refine W.eq (g2 := F0 m 35 ls []) rfl ?_
  refine lv_aload_n hx hb dX1_init_35 rfl (lv_at hl 0 rfl) ?_
  refine lv_iconst (v := (5 : Int32)) hx hb dX1_init_36 (by decide) ?_
  refine va_newI (N' := 5) hx hb (ht _ tw_83) hK hP hD hS hA (by decide) rfl (by decide) (Nat.le_of_ble_eq_true rfl) (Nat.le_of_ble_eq_true rfl) dX1_init_37 (fun q4 H hP hD hS => ?_)
  simp only [List.append_assoc, List.cons_append, List.nil_append] at hP hD
  have hP : va_P D classes ((a, .inr (1, [.int 0, .int 0, .ref q1, .ref q2, .ref q3, .null, .null, .int 0, .int 0, .int 0, .int 0, .int 0, .int 0, .int 0])) :: ([(q1, .inl (cI, 4, .inl (fun _ => 0)))] ++ ([(q2, .inl (cI, 4, .inl (fun _ => 0)))] ++ ([(q3, .inl (cI, 5, .inl (fun _ => 0)))] ++ ([(q4, .inl (cI, 5, .inl (fun _ => 0)))]))))) H := hP
  have hD : va_D A ((a, .inr (1, [.int 0, .int 0, .ref q1, .ref q2, .ref q3, .null, .null, .int 0, .int 0, .int 0, .int 0, .int 0, .int 0, .int 0])) :: ([(q1, .inl (cI, 4, .inl (fun _ => 0)))] ++ ([(q2, .inl (cI, 4, .inl (fun _ => 0)))] ++ ([(q3, .inl (cI, 5, .inl (fun _ => 0)))] ++ ([(q4, .inl (cI, 5, .inl (fun _ => 0)))]))))) := hD
  refine W.widen (k := 4) (n := 18) (by omega) (by omega) ?_
  refine W.eq (g2 := F0 m 39 ls [.ref q4, .ref a]) rfl ?_
  refine va_putF (D := D) (ci := 1) (v := .ref q4) (ty := (.array .int)) (C := RX1) (T := TX1) (N := 14) hx hb ht inX1 tyX1 tyX1_ok nmX1 hown hK hP hD hS 0 rfl rfl 5 (by decide) (ht _ tw_42) (fun _ h9 => h9) rfl hin rfl (by decide +kernel) rfl rfl (Nat.le_of_ble_eq_true rfl) dX1_init_39 (fun H locs hP hD hS => ?_)
  have hP : va_P D classes ((a, .inr (1, [.int 0, .int 0, .ref q1, .ref q2, .ref q3, .ref q4, .null, .int 0, .int 0, .int 0, .int 0, .int 0, .int 0, .int 0])) :: ([(q1, .inl (cI, 4, .inl (fun _ => 0)))] ++ ([(q2, .inl (cI, 4, .inl (fun _ => 0)))] ++ ([(q3, .inl (cI, 5, .inl (fun _ => 0)))] ++ ([(q4, .inl (cI, 5, .inl (fun _ => 0)))]))))) H := hP
  have hD : va_D A ((a, .inr (1, [.int 0, .int 0, .ref q1, .ref q2, .ref q3, .ref q4, .null, .int 0, .int 0, .int 0, .int 0, .int 0, .int 0, .int 0])) :: ([(q1, .inl (cI, 4, .inl (fun _ => 0)))] ++ ([(q2, .inl (cI, 4, .inl (fun _ => 0)))] ++ ([(q3, .inl (cI, 5, .inl (fun _ => 0)))] ++ ([(q4, .inl (cI, 5, .inl (fun _ => 0)))]))))) := hD
  refine W.eq (g2 := F0 m 42 ls []) rfl ?_
  refine lv_aload_n hx hb dX1_init_42 rfl (lv_at hl 0 rfl) ?_
  refine lv_iconst (v := (5 : Int32)) hx hb dX1_init_43 (by decide) ?_
  refine va_newI (N' := 5) hx hb (ht _ tw_83) hK hP hD hS hA (by decide) rfl (by decide) (Nat.le_of_ble_eq_true rfl) (Nat.le_of_ble_eq_true rfl) dX1_init_44 (fun q5 H hP hD hS => ?_)
  simp only [List.append_assoc, List.cons_append, List.nil_append] at hP hD
  have hP : va_P D classes ((a, .inr (1, [.int 0, .int 0, .ref q1, .ref q2, .ref q3, .ref q4, .null, .int 0, .int 0, .int 0, .int 0, .int 0, .int 0, .int 0])) :: ([(q1, .inl (cI, 4, .inl (fun _ => 0)))] ++ ([(q2, .inl (cI, 4, .inl (fun _ => 0)))] ++ ([(q3, .inl (cI, 5, .inl (fun _ => 0)))] ++ ([(q4, .inl (cI, 5, .inl (fun _ => 0)))] ++ ([(q5, .inl (cI, 5, .inl (fun _ => 0)))])))))) H := hP
  have hD : va_D A ((a, .inr (1, [.int 0, .int 0, .ref q1, .ref q2, .ref q3, .ref q4, .null, .int 0, .int 0, .int 0, .int 0, .int 0, .int 0, .int 0])) :: ([(q1, .inl (cI, 4, .inl (fun _ => 0)))] ++ ([(q2, .inl (cI, 4, .inl (fun _ => 0)))] ++ ([(q3, .inl (cI, 5, .inl (fun _ => 0)))] ++ ([(q4, .inl (cI, 5, .inl (fun _ => 0)))] ++ ([(q5, .inl (cI, 5, .inl (fun _ => 0)))])))))) := hD
  refine W.widen (k := 5) (n := 23) (by omega) (by omega) ?_
  refine W.eq (g2 := F0 m 46 ls [.ref q5, .ref a]) rfl ?_
  refine va_putF (D := D) (ci := 1) (v := .ref q5) (ty := (.array .int)) (C := RX1) (T := TX1) (N := 14) hx hb ht inX1 tyX1 tyX1_ok nmX1 hown hK hP hD hS 0 rfl rfl 6 (by decide) (ht _ tw_44) (fun _ h9 => h9) rfl hin rfl (by decide +kernel) rfl rfl (Nat.le_of_ble_eq_true rfl) dX1_init_46 (fun H locs hP hD hS => ?_)
  have hP : va_P D classes ((a, .inr (1, [.int 0, .int 0, .ref q1, .ref q2, .ref q3, .ref q4, .ref q5, .int 0, .int 0, .int 0, .int 0, .int 0, .int 0, .int 0])) :: ([(q1, .inl (cI, 4, .inl (fun _ => 0)))] ++ ([(q2, .inl (cI, 4, .inl (fun _ => 0)))] ++ ([(q3, .inl (cI, 5, .inl (fun _ => 0)))] ++ ([(q4, .inl (cI, 5, .inl (fun _ => 0)))] ++ ([(q5, .inl (cI, 5, .inl (fun _ => 0)))])))))) H := hP
  have hD : va_D A ((a, .inr (1, [.int 0, .int 0, .ref q1, .ref q2, .ref q3, .ref q4, .ref q5, .int 0, .int 0, .int 0, .int 0, .int 0, .int 0, .int 0])) :: ([(q1, .inl (cI, 4, .inl (fun _ => 0)))] ++ ([(q2, .inl (cI, 4, .inl (fun _ => 0)))] ++ ([(q3, .inl (cI, 5, .inl (fun _ => 0)))] ++ ([(q4, .inl (cI, 5, .inl (fun _ => 0)))] ++ ([(q5, .inl (cI, 5, .inl (fun _ => 0)))])))))) := hD
  refine W.eq (g2 := F0 m 49 ls []) rfl ?_
  refine lv_aload_n hx hb dX1_init_49 rfl (lv_at hl 0 rfl) ?_
  refine lv_iconst (v := (0 : Int32)) hx hb dX1_init_50 (by decide) ?_
  refine va_put (D := D) (ci := 1) (v := .int (0 : Int32)) (ty := .int) (C := RX1) (T := TX1) (N := 14) hx hb ht inX1 tyX1 tyX1_ok nmX1 hown hK hP hD hS 0 rfl rfl 7 (by decide) (ht _ tw_46) (fun _ h9 => h9) rfl (by decide +kernel) rfl rfl (Nat.le_of_ble_eq_true rfl) dX1_init_51 (fun H locs hP hD hS => ?_)
  have hP : va_P D classes ((a, .inr (1, [.int 0, .int 0, .ref q1, .ref q2, .ref q3, .ref q4, .ref q5, .int 0, .int 0, .int 0, .int 0, .int 0, .int 0, .int 0])) :: ([(q1, .inl (cI, 4, .inl (fun _ => 0)))] ++ ([(q2, .inl (cI, 4, .inl (fun _ => 0)))] ++ ([(q3, .inl (cI, 5, .inl (fun _ => 0)))] ++ ([(q4, .inl (cI, 5, .inl (fun _ => 0)))] ++ ([(q5, .inl (cI, 5, .inl (fun _ => 0)))])))))) H := hP
  have hD : va_D A ((a, .inr (1, [.int 0, .int 0, .ref q1, .ref q2, .ref q3, .ref q4, .ref q5, .int 0, .int 0, .int 0, .int 0, .int 0, .int 0, .int 0])) :: ([(q1, .inl (cI, 4, .inl (fun _ => 0)))] ++ ([(q2, .inl (cI, 4, .inl (fun _ => 0)))] ++ ([(q3, .inl (cI, 5, .inl (fun _ => 0)))] ++ ([(q4, .inl (cI, 5, .inl (fun _ => 0)))] ++ ([(q5, .inl (cI, 5, .inl (fun _ => 0)))])))))) := hD
  refine W.eq (g2 := F0 m 54 ls []) rfl ?_
  refine lv_aload_n hx hb dX1_init_54 rfl (lv_at hl 0 rfl) ?_
  refine lv_iconst (v := (0 : Int32)) hx hb dX1_init_55 (by decide) ?_
  refine va_put (D := D) (ci := 1) (v := .int (0 : Int32)) (ty := .int) (C := RX1) (T := TX1) (N := 14) hx hb ht inX1 tyX1 tyX1_ok nmX1 hown hK hP hD hS 0 rfl rfl 8 (by decide) (ht _ tw_48) (fun _ h9 => h9) rfl (by decide +kernel) rfl rfl (Nat.le_of_ble_eq_true rfl) dX1_init_56 (fun H locs hP hD hS => ?_)
  have hP : va_P D classes ((a, .inr (1, [.int 0, .int 0, .ref q1, .ref q2, .ref q3, .ref q4, .ref q5, .int 0, .int 0, .int 0, .int 0, .int 0, .int 0, .int 0])) :: ([(q1, .inl (cI, 4, .inl (fun _ => 0)))] ++ ([(q2, .inl (cI, 4, .inl (fun _ => 0)))] ++ ([(q3, .inl (cI, 5, .inl (fun _ => 0)))] ++ ([(q4, .inl (cI, 5, .inl (fun _ => 0)))] ++ ([(q5, .inl (cI, 5, .inl (fun _ => 0)))])))))) H := hP
  have hD : va_D A ((a, .inr (1, [.int 0, .int 0, .ref q1, .ref q2, .ref q3, .ref q4, .ref q5, .int 0, .int 0, .int 0, .int 0, .int 0, .int 0, .int 0])) :: ([(q1, .inl (cI, 4, .inl (fun _ => 0)))] ++ ([(q2, .inl (cI, 4, .inl (fun _ => 0)))] ++ ([(q3, .inl (cI, 5, .inl (fun _ => 0)))] ++ ([(q4, .inl (cI, 5, .inl (fun _ => 0)))] ++ ([(q5, .inl (cI, 5, .inl (fun _ => 0)))])))))) := hD
  refine W.eq (g2 := F0 m 59 ls []) rfl ?_
  refine lv_aload_n hx hb dX1_init_59 rfl (lv_at hl 0 rfl) ?_
  refine lv_iconst (v := (0 : Int32)) hx hb dX1_init_60 (by decide) ?_
  refine va_put (D := D) (ci := 1) (v := .int (0 : Int32)) (ty := .int) (C := RX1) (T := TX1) (N := 14) hx hb ht inX1 tyX1 tyX1_ok nmX1 hown hK hP hD hS 0 rfl rfl 9 (by decide) (ht _ tw_49) (fun _ h9 => h9) rfl (by decide +kernel) rfl rfl (Nat.le_of_ble_eq_true rfl) dX1_init_61 (fun H locs hP hD hS => ?_)
  have hP : va_P D classes ((a, .inr (1, [.int 0, .int 0, .ref q1, .ref q2, .ref q3, .ref q4, .ref q5, .int 0, .int 0, .int 0, .int 0, .int 0, .int 0, .int 0])) :: ([(q1, .inl (cI, 4, .inl (fun _ => 0)))] ++ ([(q2, .inl (cI, 4, .inl (fun _ => 0)))] ++ ([(q3, .inl (cI, 5, .inl (fun _ => 0)))] ++ ([(q4, .inl (cI, 5, .inl (fun _ => 0)))] ++ ([(q5, .inl (cI, 5, .inl (fun _ => 0)))])))))) H := hP
  have hD : va_D A ((a, .inr (1, [.int 0, .int 0, .ref q1, .ref q2, .ref q3, .ref q4, .ref q5, .int 0, .int 0, .int 0, .int 0, .int 0, .int 0, .int 0])) :: ([(q1, .inl (cI, 4, .inl (fun _ => 0)))] ++ ([(q2, .inl (cI, 4, .inl (fun _ => 0)))] ++ ([(q3, .inl (cI, 5, .inl (fun _ => 0)))] ++ ([(q4, .inl (cI, 5, .inl (fun _ => 0)))] ++ ([(q5, .inl (cI, 5, .inl (fun _ => 0)))])))))) := hD
  refine W.eq (g2 := F0 m 64 ls []) rfl ?_
  refine lv_aload_n hx hb dX1_init_64 rfl (lv_at hl 0 rfl) ?_
  refine lv_iconst (v := (0 : Int32)) hx hb dX1_init_65 (by decide) ?_
  refine va_put (D := D) (ci := 1) (v := .int (0 : Int32)) (ty := .int) (C := RX1) (T := TX1) (N := 14) hx hb ht inX1 tyX1 tyX1_ok nmX1 hown hK hP hD hS 0 rfl rfl 10 (by decide) (ht _ tw_50) (fun _ h9 => h9) rfl (by decide +kernel) rfl rfl (Nat.le_of_ble_eq_true rfl) dX1_init_66 (fun H locs hP hD hS => ?_)
  have hP : va_P D classes ((a, .inr (1, [.int 0, .int 0, .ref q1, .ref q2, .ref q3, .ref q4, .ref q5, .int 0, .int 0, .int 0, .int 0, .int 0, .int 0, .int 0])) :: ([(q1, .inl (cI, 4, .inl (fun _ => 0)))] ++ ([(q2, .inl (cI, 4, .inl (fun _ => 0)))] ++ ([(q3, .inl (cI, 5, .inl (fun _ => 0)))] ++ ([(q4, .inl (cI, 5, .inl (fun _ => 0)))] ++ ([(q5, .inl (cI, 5, .inl (fun _ => 0)))])))))) H := hP
  have hD : va_D A ((a, .inr (1, [.int 0, .int 0, .ref q1, .ref q2, .ref q3, .ref q4, .ref q5, .int 0, .int 0, .int 0, .int 0, .int 0, .int 0, .int 0])) :: ([(q1, .inl (cI, 4, .inl (fun _ => 0)))] ++ ([(q2, .inl (cI, 4, .inl (fun _ => 0)))] ++ ([(q3, .inl (cI, 5, .inl (fun _ => 0)))] ++ ([(q4, .inl (cI, 5, .inl (fun _ => 0)))] ++ ([(q5, .inl (cI, 5, .inl (fun _ => 0)))])))))) := hD
  refine W.eq (g2 := F0 m 69 ls []) rfl ?_
  refine lv_aload_n hx hb dX1_init_69 rfl (lv_at hl 0 rfl) ?_
  refine lv_iconst (v := (0 : Int32)) hx hb dX1_init_70 (by decide) ?_
  refine va_put (D := D) (ci := 1) (v := .int (0 : Int32)) (ty := .int) (C := RX1) (T := TX1) (N := 14) hx hb ht inX1 tyX1 tyX1_ok nmX1 hown hK hP hD hS 0 rfl rfl 11 (by decide) (ht _ tw_51) (fun _ h9 => h9) rfl (by decide +kernel) rfl rfl (Nat.le_of_ble_eq_true rfl) dX1_init_71 (fun H locs hP hD hS => ?_)
  have hP : va_P D classes ((a, .inr (1, [.int 0, .int 0, .ref q1, .ref q2, .ref q3, .ref q4, .ref q5, .int 0, .int 0, .int 0, .int 0, .int 0, .int 0, .int 0])) :: ([(q1, .inl (cI, 4, .inl (fun _ => 0)))] ++ ([(q2, .inl (cI, 4, .inl (fun _ => 0)))] ++ ([(q3, .inl (cI, 5, .inl (fun _ => 0)))] ++ ([(q4, .inl (cI, 5, .inl (fun _ => 0)))] ++ ([(q5, .inl (cI, 5, .inl (fun _ => 0)))])))))) H := hP
  have hD : va_D A ((a, .inr (1, [.int 0, .int 0, .ref q1, .ref q2, .ref q3, .ref q4, .ref q5, .int 0, .int 0, .int 0, .int 0, .int 0, .int 0, .int 0])) :: ([(q1, .inl (cI, 4, .inl (fun _ => 0)))] ++ ([(q2, .inl (cI, 4, .inl (fun _ => 0)))] ++ ([(q3, .inl (cI, 5, .inl (fun _ => 0)))] ++ ([(q4, .inl (cI, 5, .inl (fun _ => 0)))] ++ ([(q5, .inl (cI, 5, .inl (fun _ => 0)))])))))) := hD
  refine W.eq (g2 := F0 m 74 ls []) rfl ?_
  refine lv_aload_n hx hb dX1_init_74 rfl (lv_at hl 0 rfl) ?_
  refine lv_iconst (v := (0 : Int32)) hx hb dX1_init_75 (by decide) ?_
  refine va_put (D := D) (ci := 1) (v := .int (0 : Int32)) (ty := .int) (C := RX1) (T := TX1) (N := 14) hx hb ht inX1 tyX1 tyX1_ok nmX1 hown hK hP hD hS 0 rfl rfl 12 (by decide) (ht _ tw_52) (fun _ h9 => h9) rfl (by decide +kernel) rfl rfl (Nat.le_of_ble_eq_true rfl) dX1_init_76 (fun H locs hP hD hS => ?_)
  have hP : va_P D classes ((a, .inr (1, [.int 0, .int 0, .ref q1, .ref q2, .ref q3, .ref q4, .ref q5, .int 0, .int 0, .int 0, .int 0, .int 0, .int 0, .int 0])) :: ([(q1, .inl (cI, 4, .inl (fun _ => 0)))] ++ ([(q2, .inl (cI, 4, .inl (fun _ => 0)))] ++ ([(q3, .inl (cI, 5, .inl (fun _ => 0)))] ++ ([(q4, .inl (cI, 5, .inl (fun _ => 0)))] ++ ([(q5, .inl (cI, 5, .inl (fun _ => 0)))])))))) H := hP
  have hD : va_D A ((a, .inr (1, [.int 0, .int 0, .ref q1, .ref q2, .ref q3, .ref q4, .ref q5, .int 0, .int 0, .int 0, .int 0, .int 0, .int 0, .int 0])) :: ([(q1, .inl (cI, 4, .inl (fun _ => 0)))] ++ ([(q2, .inl (cI, 4, .inl (fun _ => 0)))] ++ ([(q3, .inl (cI, 5, .inl (fun _ => 0)))] ++ ([(q4, .inl (cI, 5, .inl (fun _ => 0)))] ++ ([(q5, .inl (cI, 5, .inl (fun _ => 0)))])))))) := hD
  refine W.eq (g2 := F0 m 79 ls []) rfl ?_
  refine lv_aload_n hx hb dX1_init_79 rfl (lv_at hl 0 rfl) ?_
  refine lv_iconst (v := (0 : Int32)) hx hb dX1_init_80 (by decide) ?_
  refine va_put (D := D) (ci := 1) (v := .int (0 : Int32)) (ty := .int) (C := RX1) (T := TX1) (N := 14) hx hb ht inX1 tyX1 tyX1_ok nmX1 hown hK hP hD hS 0 rfl rfl 13 (by decide) (ht _ tw_53) (fun _ h9 => h9) rfl (by decide +kernel) rfl rfl (Nat.le_of_ble_eq_true rfl) dX1_init_81 (fun H locs hP hD hS => ?_)
  have hP : va_P D classes ((a, .inr (1, [.int 0, .int 0, .ref q1, .ref q2, .ref q3, .ref q4, .ref q5, .int 0, .int 0, .int 0, .int 0, .int 0, .int 0, .int 0])) :: ([(q1, .inl (cI, 4, .inl (fun _ => 0)))] ++ ([(q2, .inl (cI, 4, .inl (fun _ => 0)))] ++ ([(q3, .inl (cI, 5, .inl (fun _ => 0)))] ++ ([(q4, .inl (cI, 5, .inl (fun _ => 0)))] ++ ([(q5, .inl (cI, 5, .inl (fun _ => 0)))])))))) H := hP
  have hD : va_D A ((a, .inr (1, [.int 0, .int 0, .ref q1, .ref q2, .ref q3, .ref q4, .ref q5, .int 0, .int 0, .int 0, .int 0, .int 0, .int 0, .int 0])) :: ([(q1, .inl (cI, 4, .inl (fun _ => 0)))] ++ ([(q2, .inl (cI, 4, .inl (fun _ => 0)))] ++ ([(q3, .inl (cI, 5, .inl (fun _ => 0)))] ++ ([(q4, .inl (cI, 5, .inl (fun _ => 0)))] ++ ([(q5, .inl (cI, 5, .inl (fun _ => 0)))])))))) := hD
  refine W.eq (g2 := F0 m 84 ls []) rfl ?_
  refine lv_aload_n hx hb dX1_init_84 rfl (lv_at hl 0 rfl) ?_
  refine va_get (D := D) (ci := 1) (v := .ref q2) (C := RX1) (T := TX1) (N := 14) hx hb ht inX1 hown hK hP 0 rfl rfl 3 (by decide) (ht _ tw_37) (fun _ h9 => h9) rfl dX1_init_85 ?_
  refine lv_bipush (v := (-9 : Int32)) hx hb dX1_init_88 (by decide) ?_
  have hPc : va_P D classes (wI cI q2 4 (fun _ => 0)) H := hP.sub [2] rfl
  have hDc : va_D A (wI cI q2 4 (fun _ => 0)) := hD.sub [2] (by decide) rfl
  have hFc := va_freeX hDc hS hA
  refine va_callv (va_runS (As := [.ref q2, .int (-9 : Int32)]) (rest := []) ⟨hx, hb, hml, hown, hts⟩ (c_J7_fill_53178 l D cI cZ cW q2 H.size (-9 : Int32) 4 (fun _ => 0) (fun z => ∀ i, i < 4 → z i = (-9 : Int32)) (fill_spec _ _ _ _ (by decide) (fun z hz => hz))) ⟨callB_of 2 hts (gA tw_29) rfl rfl rfl (ht _ tw_3) (ht _ tw_27) hd_J7_fill_53178 ⟨Nat.le_of_ble_eq_true rfl, Nat.le_of_ble_eq_true rfl⟩, ht _ tw_28⟩ ⟨PW_blind, fun U hU hW => PW_mk hPc hDc hK hU hW⟩ rfl rfl hl.1 rfl (lv_room (Nat.le_of_ble_eq_true rfl)) dX1_init_90 ⟨Nat.le_of_ble_eq_true rfl, Nat.le_of_ble_eq_true rfl⟩) hS (fun q _ h => hFc q h) hFc (fun u t H1 locs ht1 hvm hf hB hz1 hk1 hS => ?_)
  obtain ⟨f6, rfl⟩ : ∃ z, z = u := ⟨_, rfl⟩
  have ef6 := hf
  rw [ht1] at hB
  obtain ⟨hP, hD⟩ := cj [2] (wI cI q2 4 (fun _ => 0)) (wI cI q2 4 f6) hP hD rfl rfl hk1 hB
  generalize H1 = H at hP hS ⊢
  have hP : va_P D classes ((a, .inr (1, [.int 0, .int 0, .ref q1, .ref q2, .ref q3, .ref q4, .ref q5, .int 0, .int 0, .int 0, .int 0, .int 0, .int 0, .int 0])) :: ([(q1, .inl (cI, 4, .inl (fun _ => 0)))] ++ ([(q2, .inl (cI, 4, .inl f6))] ++ ([(q3, .inl (cI, 5, .inl (fun _ => 0)))] ++ ([(q4, .inl (cI, 5, .inl (fun _ => 0)))] ++ ([(q5, .inl (cI, 5, .inl (fun _ => 0)))])))))) H := hP
  have hD : va_D A ((a, .inr (1, [.int 0, .int 0, .ref q1, .ref q2, .ref q3, .ref q4, .ref q5, .int 0, .int 0, .int 0, .int 0, .int 0, .int 0, .int 0])) :: ([(q1, .inl (cI, 4, .inl (fun _ => 0)))] ++ ([(q2, .inl (cI, 4, .inl f6))] ++ ([(q3, .inl (cI, 5, .inl (fun _ => 0)))] ++ ([(q4, .inl (cI, 5, .inl (fun _ => 0)))] ++ ([(q5, .inl (cI, 5, .inl (fun _ => 0)))])))))) := hD
  refine W.widen (k := 5) (n := 23) (by omega) (by omega) ?_
  refine W.eq (g2 := F0 m 93 ls []) rfl ?_
  refine lv_aload_n hx hb dX1_init_93 rfl (lv_at hl 0 rfl) ?_
  refine va_get (D := D) (ci := 1) (v := .ref q4) (C := RX1) (T := TX1) (N := 14) hx hb ht inX1 hown hK hP 0 rfl rfl 5 (by decide) (ht _ tw_42) (fun _ h9 => h9) rfl dX1_init_94 ?_
  refine lv_bipush (v := (-9 : Int32)) hx hb dX1_init_97 (by decide) ?_
  have hPc : va_P D classes (wI cI q4 5 (fun _ => 0)) H := hP.sub [4] rfl
  have hDc : va_D A (wI cI q4 5 (fun _ => 0)) := hD.sub [4] (by decide) rfl
  have hFc := va_freeX hDc hS hA
  refine va_callv (va_runS (As := [.ref q4, .int (-9 : Int32)]) (rest := []) ⟨hx, hb, hml, hown, hts⟩ (c_J7_fill_53178 l D cI cZ cW q4 H.size (-9 : Int32) 5 (fun _ => 0) (fun z => ∀ i, i < 5 → z i = (-9 : Int32)) (fill_spec _ _ _ _ (by decide) (fun z hz => hz))) ⟨callB_of 2 hts (gA tw_29) rfl rfl rfl (ht _ tw_3) (ht _ tw_27) hd_J7_fill_53178 ⟨Nat.le_of_ble_eq_true rfl, Nat.le_of_ble_eq_true rfl⟩, ht _ tw_28⟩ ⟨PW_blind, fun U hU hW => PW_mk hPc hDc hK hU hW⟩ rfl rfl hl.1 rfl (lv_room (Nat.le_of_ble_eq_true rfl)) dX1_init_99 ⟨Nat.le_of_ble_eq_true rfl, Nat.le_of_ble_eq_true rfl⟩) hS (fun q _ h => hFc q h) hFc (fun u t H1 locs ht1 hvm hf hB hz1 hk1 hS => ?_)
  obtain ⟨f7, rfl⟩ : ∃ z, z = u := ⟨_, rfl⟩
  have ef7 := hf
  rw [ht1] at hB
  obtain ⟨hP, hD⟩ := cj [4] (wI cI q4 5 (fun _ => 0)) (wI cI q4 5 f7) hP hD rfl rfl hk1 hB
  generalize H1 = H at hP hS ⊢
  have hP : va_P D classes ((a, .inr (1, [.int 0, .int 0, .ref q1, .ref q2, .ref q3, .ref q4, .ref q5, .int 0, .int 0, .int 0, .int 0, .int 0, .int 0, .int 0])) :: ([(q1, .inl (cI, 4, .inl (fun _ => 0)))] ++ ([(q2, .inl (cI, 4, .inl f6))] ++ ([(q3, .inl (cI, 5, .inl (fun _ => 0)))] ++ ([(q4, .inl (cI, 5, .inl f7))] ++ ([(q5, .inl (cI, 5, .inl (fun _ => 0)))])))))) H := hP
  have hD : va_D A ((a, .inr (1, [.int 0, .int 0, .ref q1, .ref q2, .ref q3, .ref q4, .ref q5, .int 0, .int 0, .int 0, .int 0, .int 0, .int 0, .int 0])) :: ([(q1, .inl (cI, 4, .inl (fun _ => 0)))] ++ ([(q2, .inl (cI, 4, .inl f6))] ++ ([(q3, .inl (cI, 5, .inl (fun _ => 0)))] ++ ([(q4, .inl (cI, 5, .inl f7))] ++ ([(q5, .inl (cI, 5, .inl (fun _ => 0)))])))))) := hD
  refine W.widen (k := 5) (n := 23) (by omega) (by omega) ?_
  refine W.eq (g2 := F0 m 102 ls []) rfl ?_
  have hP : va_P D classes ((a, .inr (1, [.int 0, .int 0, .ref q1, .ref q2, .ref q3, .ref q4, .ref q5, .int 0, .int 0, .int 0, .int 0, .int 0, .int 0, .int 0])) :: ([(q1, .inl (cI, 4, .inl (fun _ => 0)))] ++ ([(q2, .inl (cI, 4, .inl wfill))] ++ ([(q3, .inl (cI, 5, .inl (fun _ => 0)))] ++ ([(q4, .inl (cI, 5, .inl f7))] ++ ([(q5, .inl (cI, 5, .inl (fun _ => 0)))])))))) H := P_cell (pre := [(a, .inr (1, [.int 0, .int 0, .ref q1, .ref q2, .ref q3, .ref q4, .ref q5, .int 0, .int 0, .int 0, .int 0, .int 0, .int 0, .int 0])), (q1, .inl (cI, 4, .inl (fun _ => 0)))]) (post := [(q3, .inl (cI, 5, .inl (fun _ => 0))), (q4, .inl (cI, 5, .inl f7)), (q5, .inl (cI, 5, .inl (fun _ => 0)))]) (cell_i cI (fun k hk => by rw [ef6 k hk]; rfl)) hP
  have hD : va_D A ((a, .inr (1, [.int 0, .int 0, .ref q1, .ref q2, .ref q3, .ref q4, .ref q5, .int 0, .int 0, .int 0, .int 0, .int 0, .int 0, .int 0])) :: ([(q1, .inl (cI, 4, .inl (fun _ => 0)))] ++ ([(q2, .inl (cI, 4, .inl wfill))] ++ ([(q3, .inl (cI, 5, .inl (fun _ => 0)))] ++ ([(q4, .inl (cI, 5, .inl f7))] ++ ([(q5, .inl (cI, 5, .inl (fun _ => 0)))])))))) := hD.same rfl
  have hP : va_P D classes ((a, .inr (1, [.int 0, .int 0, .ref q1, .ref q2, .ref q3, .ref q4, .ref q5, .int 0, .int 0, .int 0, .int 0, .int 0, .int 0, .int 0])) :: ([(q1, .inl (cI, 4, .inl (fun _ => 0)))] ++ ([(q2, .inl (cI, 4, .inl wfill))] ++ ([(q3, .inl (cI, 5, .inl (fun _ => 0)))] ++ ([(q4, .inl (cI, 5, .inl wfill))] ++ ([(q5, .inl (cI, 5, .inl (fun _ => 0)))])))))) H := P_cell (pre := [(a, .inr (1, [.int 0, .int 0, .ref q1, .ref q2, .ref q3, .ref q4, .ref q5, .int 0, .int 0, .int 0, .int 0, .int 0, .int 0, .int 0])), (q1, .inl (cI, 4, .inl (fun _ => 0))), (q2, .inl (cI, 4, .inl wfill)), (q3, .inl (cI, 5, .inl (fun _ => 0)))]) (post := [(q5, .inl (cI, 5, .inl (fun _ => 0)))]) (cell_i cI (fun k hk => by rw [ef7 k hk]; rfl)) hP
  have hD : va_D A ((a, .inr (1, [.int 0, .int 0, .ref q1, .ref q2, .ref q3, .ref q4, .ref q5, .int 0, .int 0, .int 0, .int 0, .int 0, .int 0, .int 0])) :: ([(q1, .inl (cI, 4, .inl (fun _ => 0)))] ++ ([(q2, .inl (cI, 4, .inl wfill))] ++ ([(q3, .inl (cI, 5, .inl (fun _ => 0)))] ++ ([(q4, .inl (cI, 5, .inl wfill))] ++ ([(q5, .inl (cI, 5, .inl (fun _ => 0)))])))))) := hD.same rfl
  exact W.vret hx hb hr (fun t ht hW => ⟨⟨(fun k => if k = 0 then a else if k = 1 then q1 else if k = 2 then q2 else if k = 3 then q3 else if k = 4 then q4 else q5), rfl, rfl, P_heap ht hP, hD⟩, hS.F ht⟩) hS.2.2 dX1_init_102
