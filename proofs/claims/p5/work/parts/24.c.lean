theorem dX4_init_0 : decode cX4_init 0 = .ok (.aload_n 0, 1) := by decide +kernel
theorem dX4_init_1 : decode cX4_init 1 = .ok (.invokespecial 3, 3) := by decide +kernel
theorem dX4_init_4 : decode cX4_init 4 = .ok (.aload_n 0, 1) := by decide +kernel
theorem dX4_init_5 : decode cX4_init 5 = .ok (.bipush 6, 2) := by decide +kernel
theorem dX4_init_7 : decode cX4_init 7 = .ok (.newarray .int, 2) := by decide +kernel
theorem dX4_init_9 : decode cX4_init 9 = .ok (.putfield 9, 3) := by decide +kernel
theorem dX4_init_12 : decode cX4_init 12 = .ok (.aload_n 0, 1) := by decide +kernel
theorem dX4_init_13 : decode cX4_init 13 = .ok (.bipush 6, 2) := by decide +kernel
theorem dX4_init_15 : decode cX4_init 15 = .ok (.newarray .int, 2) := by decide +kernel
theorem dX4_init_17 : decode cX4_init 17 = .ok (.putfield 15, 3) := by decide +kernel
theorem dX4_init_20 : decode cX4_init 20 = .ok (.aload_n 0, 1) := by decide +kernel
theorem dX4_init_21 : decode cX4_init 21 = .ok (.bipush 6, 2) := by decide +kernel
theorem dX4_init_23 : decode cX4_init 23 = .ok (.newarray .boolean, 2) := by decide +kernel
theorem dX4_init_25 : decode cX4_init 25 = .ok (.putfield 18, 3) := by decide +kernel
theorem dX4_init_28 : decode cX4_init 28 = .ok (.aload_n 0, 1) := by decide +kernel
theorem dX4_init_29 : decode cX4_init 29 = .ok (.iconst 0, 1) := by decide +kernel
theorem dX4_init_30 : decode cX4_init 30 = .ok (.putfield 22, 3) := by decide +kernel
theorem dX4_init_33 : decode cX4_init 33 = .ok (.return_, 1) := by decide +kernel
set_option maxHeartbeats 8000000 in
set_option maxRecDepth 100000 in
theorem c_X4_init (l : Launch) (D : va_G) (cI cZ cW : ClassId) (sz a : Nat) : Met l yX4_init (wsA yX4_init cX4_init 1 none) ({ frames := 1, cells := 3, slots := 18, locals := 12 }) (PW D cI cZ cW [.ref a] [(a, .inr (2, [.null, .null, .null, .int 0]))] sz) (va_Qv (fun u : Nat → Nat => a = u 0) (fun u t => va_P D classes (wT cI cZ u t0) t.heap ∧ va_D (va_A [(a, .inr (2, [.null, .null, .null, .int 0]))] sz) (wT cI cZ u t0)) (va_A [(a, .inr (2, [.null, .null, .null, .int 0]))] sz)) 3 18 (va_A [(a, .inr (2, [.null, .null, .null, .int 0]))] sz) := by
  refine Met.ofW (cc := cX4_init) (maxL := 1) (ret := none) (by decide) rfl ?_
  intro p e s m args below meth c s₁ B hml hv
  obtain ⟨rfl, hsz, hP, hK, hD0⟩ := hv
  have hx := B.exec
  have hb := B.bytes
  have hr := B.returns
  have hts := atoms_spec (ws := (wsA yX4_init cX4_init 1 none)) B.pre
  have ht : ∀ w ∈ lw_g, w.before _ s = true := fun w h => hts w (List.mem_cons_of_mem _ h)
  have hown : s.vm.findClass RX4 = some m.cls := findClass_of_methodNamed B.named
  have hlocks := B.notSynchronized
  have hin : meth.name = "<init>" := (name_of_methodNamed B.named B.method).1
  subst hsz
  have hD := hD0.self (sz := s.heap.size)
  generalize hAe : va_A [(a, .inr (2, [.null, .null, .null, .int 0]))] s.heap.size = A at hD ⊢
  have hA : ∀ q : Nat, s.heap.size ≤ q → A q := fun q h => by rw [← hAe]; exact Or.inr h
  have hS : va_S A s.heap s.heap [] := va_S.rf
  have hl := lv_entry ([.ref a]) (n := 1) (Nat.le_of_ble_eq_true rfl)
  rw [lg_entry_eq]
  generalize (lg_sl ([.ref a]) ++ List.replicate (1 - (lg_sl ([.ref a])).length) Slot.unset).toArray = ls at hl ⊢
  have hl : lv_has ls 1 [(0, .ref a)] := hl
  refine lv_aload_n hx hb dX4_init_0 rfl (lv_at hl 0 rfl) ?_
  refine W.objInit hx hb hown (ht _ tw_137) (ht _ tw_19) (ht _ tw_20) rfl (by rw [hml]; exact hl.1) rfl dX4_init_1 (Nat.le_of_ble_eq_true rfl) (Nat.le_of_ble_eq_true rfl) ?_
  refine W.eq (g2 := F0 m 4 ls []) rfl ?_
  refine lv_aload_n hx hb dX4_init_4 rfl (lv_at hl 0 rfl) ?_
  refine lv_bipush (v := (6 : Int32)) hx hb dX4_init_5 (by decide) ?_
  refine va_newI (N' := 6) hx hb (ht _ tw_83) hK hP hD hS hA (by decide) rfl (by decide) (Nat.le_of_ble_eq_true rfl) (Nat.le_of_ble_eq_true rfl) dX4_init_7 (fun q1 H hP hD hS => ?_)
  simp only [List.append_assoc, List.cons_append, List.nil_append] at hP hD
  have hP : va_P D classes ((a, .inr (2, [.null, .null, .null, .int 0])) :: ([(q1, .inl (cI, 6, .inl (fun _ => 0)))])) H := hP
  have hD : va_D A ((a, .inr (2, [.null, .null, .null, .int 0])) :: ([(q1, .inl (cI, 6, .inl (fun _ => 0)))])) := hD
  refine W.widen (k := 1) (n := 6) (by omega) (by omega) ?_
  refine W.eq (g2 := F0 m 9 ls [.ref q1, .ref a]) rfl ?_
  refine va_putF (D := D) (ci := 2) (v := .ref q1) (ty := (.array .int)) (C := RX4) (T := TX4) (N := 4) hx hb ht inX4 tyX4 tyX4_ok nmX4 hown hK hP hD hS 0 rfl rfl 0 (by decide) (ht _ tw_138) (fun _ h9 => h9) rfl hin rfl (by decide +kernel) rfl rfl (Nat.le_of_ble_eq_true rfl) dX4_init_9 (fun H locs hP hD hS => ?_)
  have hP : va_P D classes ((a, .inr (2, [.ref q1, .null, .null, .int 0])) :: ([(q1, .inl (cI, 6, .inl (fun _ => 0)))])) H := hP
  have hD : va_D A ((a, .inr (2, [.ref q1, .null, .null, .int 0])) :: ([(q1, .inl (cI, 6, .inl (fun _ => 0)))])) := hD
  refine W.eq (g2 := F0 m 12 ls []) rfl ?_
  refine lv_aload_n hx hb dX4_init_12 rfl (lv_at hl 0 rfl) ?_
  refine lv_bipush (v := (6 : Int32)) hx hb dX4_init_13 (by decide) ?_
  refine va_newI (N' := 6) hx hb (ht _ tw_83) hK hP hD hS hA (by decide) rfl (by decide) (Nat.le_of_ble_eq_true rfl) (Nat.le_of_ble_eq_true rfl) dX4_init_15 (fun q2 H hP hD hS => ?_)
  simp only [List.append_assoc, List.cons_append, List.nil_append] at hP hD
  have hP : va_P D classes ((a, .inr (2, [.ref q1, .null, .null, .int 0])) :: ([(q1, .inl (cI, 6, .inl (fun _ => 0)))] ++ ([(q2, .inl (cI, 6, .inl (fun _ => 0)))]))) H := hP
  have hD : va_D A ((a, .inr (2, [.ref q1, .null, .null, .int 0])) :: ([(q1, .inl (cI, 6, .inl (fun _ => 0)))] ++ ([(q2, .inl (cI, 6, .inl (fun _ => 0)))]))) := hD
  refine W.widen (k := 2) (n := 12) (by omega) (by omega) ?_
  refine W.eq (g2 := F0 m 17 ls [.ref q2, .ref a]) rfl ?_
  refine va_putF (D := D) (ci := 2) (v := .ref q2) (ty := (.array .int)) (C := RX4) (T := TX4) (N := 4) hx hb ht inX4 tyX4 tyX4_ok nmX4 hown hK hP hD hS 0 rfl rfl 1 (by decide) (ht _ tw_139) (fun _ h9 => h9) rfl hin rfl (by decide +kernel) rfl rfl (Nat.le_of_ble_eq_true rfl) dX4_init_17 (fun H locs hP hD hS => ?_)
  have hP : va_P D classes ((a, .inr (2, [.ref q1, .ref q2, .null, .int 0])) :: ([(q1, .inl (cI, 6, .inl (fun _ => 0)))] ++ ([(q2, .inl (cI, 6, .inl (fun _ => 0)))]))) H := hP
  have hD : va_D A ((a, .inr (2, [.ref q1, .ref q2, .null, .int 0])) :: ([(q1, .inl (cI, 6, .inl (fun _ => 0)))] ++ ([(q2, .inl (cI, 6, .inl (fun _ => 0)))]))) := hD
  refine W.eq (g2 := F0 m 20 ls []) rfl ?_
  refine lv_aload_n hx hb dX4_init_20 rfl (lv_at hl 0 rfl) ?_
  refine lv_bipush (v := (6 : Int32)) hx hb dX4_init_21 (by decide) ?_
  refine va_newZ (N' := 6) hx hb (ht _ tw_152) hK hP hD hS hA (by decide) rfl (by decide) (Nat.le_of_ble_eq_true rfl) (Nat.le_of_ble_eq_true rfl) dX4_init_23 (fun q3 H hP hD hS => ?_)
  simp only [List.append_assoc, List.cons_append, List.nil_append] at hP hD
  have hP : va_P D classes ((a, .inr (2, [.ref q1, .ref q2, .null, .int 0])) :: ([(q1, .inl (cI, 6, .inl (fun _ => 0)))] ++ ([(q2, .inl (cI, 6, .inl (fun _ => 0)))] ++ ([(q3, .inl (cZ, 6, .inl (fun _ => 0)))])))) H := hP
  have hD : va_D A ((a, .inr (2, [.ref q1, .ref q2, .null, .int 0])) :: ([(q1, .inl (cI, 6, .inl (fun _ => 0)))] ++ ([(q2, .inl (cI, 6, .inl (fun _ => 0)))] ++ ([(q3, .inl (cZ, 6, .inl (fun _ => 0)))])))) := hD
  refine W.widen (k := 3) (n := 18) (by omega) (by omega) ?_
  refine W.eq (g2 := F0 m 25 ls [.ref q3, .ref a]) rfl ?_
  refine va_putF (D := D) (ci := 2) (v := .ref q3) (ty := (.array .boolean)) (C := RX4) (T := TX4) (N := 4) hx hb ht inX4 tyX4 tyX4_ok nmX4 hown hK hP hD hS 0 rfl rfl 2 (by decide) (ht _ tw_140) (fun _ h9 => h9) rfl hin rfl (by decide +kernel) rfl rfl (Nat.le_of_ble_eq_true rfl) dX4_init_25 (fun H locs hP hD hS => ?_)
  have hP : va_P D classes ((a, .inr (2, [.ref q1, .ref q2, .ref q3, .int 0])) :: ([(q1, .inl (cI, 6, .inl (fun _ => 0)))] ++ ([(q2, .inl (cI, 6, .inl (fun _ => 0)))] ++ ([(q3, .inl (cZ, 6, .inl (fun _ => 0)))])))) H := hP
  have hD : va_D A ((a, .inr (2, [.ref q1, .ref q2, .ref q3, .int 0])) :: ([(q1, .inl (cI, 6, .inl (fun _ => 0)))] ++ ([(q2, .inl (cI, 6, .inl (fun _ => 0)))] ++ ([(q3, .inl (cZ, 6, .inl (fun _ => 0)))])))) := hD
  refine W.eq (g2 := F0 m 28 ls []) rfl ?_
  refine lv_aload_n hx hb dX4_init_28 rfl (lv_at hl 0 rfl) ?_
  refine lv_iconst (v := (0 : Int32)) hx hb dX4_init_29 (by decide) ?_
  refine va_put (D := D) (ci := 2) (v := .int (0 : Int32)) (ty := .int) (C := RX4) (T := TX4) (N := 4) hx hb ht inX4 tyX4 tyX4_ok nmX4 hown hK hP hD hS 0 rfl rfl 3 (by decide) (ht _ tw_141) (fun _ h9 => h9) rfl (by decide +kernel) rfl rfl (Nat.le_of_ble_eq_true rfl) dX4_init_30 (fun H locs hP hD hS => ?_)
  have hP : va_P D classes ((a, .inr (2, [.ref q1, .ref q2, .ref q3, .int 0])) :: ([(q1, .inl (cI, 6, .inl (fun _ => 0)))] ++ ([(q2, .inl (cI, 6, .inl (fun _ => 0)))] ++ ([(q3, .inl (cZ, 6, .inl (fun _ => 0)))])))) H := hP
  have hD : va_D A ((a, .inr (2, [.ref q1, .ref q2, .ref q3, .int 0])) :: ([(q1, .inl (cI, 6, .inl (fun _ => 0)))] ++ ([(q2, .inl (cI, 6, .inl (fun _ => 0)))] ++ ([(q3, .inl (cZ, 6, .inl (fun _ => 0)))])))) := hD
  refine W.eq (g2 := F0 m 33 ls []) rfl ?_
  exact W.vret hx hb hr (fun t ht hW => ⟨⟨(fun k => if k = 0 then a else if k = 1 then q1 else if k = 2 then q2 else q3), rfl, rfl, P_heap ht hP, hD⟩, hS.F ht⟩) hS.2.2 dX4_init_33
