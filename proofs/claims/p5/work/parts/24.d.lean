theorem dX7_init_0 : decode cX7_init 0 = .ok (.aload_n 0, 1) := by decide +kernel
theorem dX7_init_1 : decode cX7_init 1 = .ok (.invokespecial 1, 3) := by decide +kernel
theorem dX7_init_4 : decode cX7_init 4 = .ok (.aload_n 0, 1) := by decide +kernel
theorem dX7_init_5 : decode cX7_init 5 = .ok (.iconst 4, 1) := by decide +kernel
theorem dX7_init_6 : decode cX7_init 6 = .ok (.newarray .int, 2) := by decide +kernel
theorem dX7_init_8 : decode cX7_init 8 = .ok (.putfield 7, 3) := by decide +kernel
theorem dX7_init_11 : decode cX7_init 11 = .ok (.aload_n 0, 1) := by decide +kernel
theorem dX7_init_12 : decode cX7_init 12 = .ok (.iconst 4, 1) := by decide +kernel
theorem dX7_init_13 : decode cX7_init 13 = .ok (.newarray .int, 2) := by decide +kernel
theorem dX7_init_15 : decode cX7_init 15 = .ok (.putfield 13, 3) := by decide +kernel
theorem dX7_init_18 : decode cX7_init 18 = .ok (.aload_n 0, 1) := by decide +kernel
theorem dX7_init_19 : decode cX7_init 19 = .ok (.iconst 5, 1) := by decide +kernel
theorem dX7_init_20 : decode cX7_init 20 = .ok (.newarray .int, 2) := by decide +kernel
theorem dX7_init_22 : decode cX7_init 22 = .ok (.putfield 16, 3) := by decide +kernel
theorem dX7_init_25 : decode cX7_init 25 = .ok (.aload_n 0, 1) := by decide +kernel
theorem dX7_init_26 : decode cX7_init 26 = .ok (.bipush 70, 2) := by decide +kernel
theorem dX7_init_28 : decode cX7_init 28 = .ok (.newarray .int, 2) := by decide +kernel
theorem dX7_init_30 : decode cX7_init 30 = .ok (.putfield 19, 3) := by decide +kernel
theorem dX7_init_33 : decode cX7_init 33 = .ok (.aload_n 0, 1) := by decide +kernel
theorem dX7_init_34 : decode cX7_init 34 = .ok (.iconst 4, 1) := by decide +kernel
theorem dX7_init_35 : decode cX7_init 35 = .ok (.newarray .int, 2) := by decide +kernel
theorem dX7_init_37 : decode cX7_init 37 = .ok (.putfield 22, 3) := by decide +kernel
theorem dX7_init_40 : decode cX7_init 40 = .ok (.aload_n 0, 1) := by decide +kernel
theorem dX7_init_41 : decode cX7_init 41 = .ok (.iconst 4, 1) := by decide +kernel
theorem dX7_init_42 : decode cX7_init 42 = .ok (.newarray .int, 2) := by decide +kernel
theorem dX7_init_44 : decode cX7_init 44 = .ok (.putfield 25, 3) := by decide +kernel
theorem dX7_init_47 : decode cX7_init 47 = .ok (.aload_n 0, 1) := by decide +kernel
theorem dX7_init_48 : decode cX7_init 48 = .ok (.bipush 15, 2) := by decide +kernel
theorem dX7_init_50 : decode cX7_init 50 = .ok (.newarray .int, 2) := by decide +kernel
theorem dX7_init_52 : decode cX7_init 52 = .ok (.putfield 28, 3) := by decide +kernel
theorem dX7_init_55 : decode cX7_init 55 = .ok (.aload_n 0, 1) := by decide +kernel
theorem dX7_init_56 : decode cX7_init 56 = .ok (.bipush 48, 2) := by decide +kernel
theorem dX7_init_58 : decode cX7_init 58 = .ok (.newarray .int, 2) := by decide +kernel
theorem dX7_init_60 : decode cX7_init 60 = .ok (.putfield 31, 3) := by decide +kernel
theorem dX7_init_63 : decode cX7_init 63 = .ok (.aload_n 0, 1) := by decide +kernel
theorem dX7_init_64 : decode cX7_init 64 = .ok (.sipush 490, 3) := by decide +kernel
theorem dX7_init_67 : decode cX7_init 67 = .ok (.newarray .int, 2) := by decide +kernel
theorem dX7_init_69 : decode cX7_init 69 = .ok (.putfield 34, 3) := by decide +kernel
theorem dX7_init_72 : decode cX7_init 72 = .ok (.aload_n 0, 1) := by decide +kernel
theorem dX7_init_73 : decode cX7_init 73 = .ok (.bipush 20, 2) := by decide +kernel
theorem dX7_init_75 : decode cX7_init 75 = .ok (.newarray .int, 2) := by decide +kernel
theorem dX7_init_77 : decode cX7_init 77 = .ok (.putfield 37, 3) := by decide +kernel
theorem dX7_init_80 : decode cX7_init 80 = .ok (.aload_n 0, 1) := by decide +kernel
theorem dX7_init_81 : decode cX7_init 81 = .ok (.bipush 6, 2) := by decide +kernel
theorem dX7_init_83 : decode cX7_init 83 = .ok (.newarray .int, 2) := by decide +kernel
theorem dX7_init_85 : decode cX7_init 85 = .ok (.putfield 40, 3) := by decide +kernel
theorem dX7_init_88 : decode cX7_init 88 = .ok (.aload_n 0, 1) := by decide +kernel
theorem dX7_init_89 : decode cX7_init 89 = .ok (.bipush 6, 2) := by decide +kernel
theorem dX7_init_91 : decode cX7_init 91 = .ok (.newarray .int, 2) := by decide +kernel
theorem dX7_init_93 : decode cX7_init 93 = .ok (.putfield 43, 3) := by decide +kernel
theorem dX7_init_96 : decode cX7_init 96 = .ok (.aload_n 0, 1) := by decide +kernel
theorem dX7_init_97 : decode cX7_init 97 = .ok (.bipush 6, 2) := by decide +kernel
theorem dX7_init_99 : decode cX7_init 99 = .ok (.newarray .int, 2) := by decide +kernel
theorem dX7_init_101 : decode cX7_init 101 = .ok (.putfield 46, 3) := by decide +kernel
theorem dX7_init_104 : decode cX7_init 104 = .ok (.aload_n 0, 1) := by decide +kernel
theorem dX7_init_105 : decode cX7_init 105 = .ok (.iconst 2, 1) := by decide +kernel
theorem dX7_init_106 : decode cX7_init 106 = .ok (.newarray .boolean, 2) := by decide +kernel
theorem dX7_init_108 : decode cX7_init 108 = .ok (.putfield 49, 3) := by decide +kernel
theorem dX7_init_111 : decode cX7_init 111 = .ok (.aload_n 0, 1) := by decide +kernel
theorem dX7_init_112 : decode cX7_init 112 = .ok (.bipush 70, 2) := by decide +kernel
theorem dX7_init_114 : decode cX7_init 114 = .ok (.newarray .int, 2) := by decide +kernel
theorem dX7_init_116 : decode cX7_init 116 = .ok (.putfield 53, 3) := by decide +kernel
theorem dX7_init_119 : decode cX7_init 119 = .ok (.iconst 0, 1) := by decide +kernel
theorem dX7_init_120 : decode cX7_init 120 = .ok (.istore_n 1, 1) := by decide +kernel
theorem dX7_init_121 : decode cX7_init 121 = .ok (.iload_n 1, 1) := by decide +kernel
theorem dX7_init_122 : decode cX7_init 122 = .ok (.bipush 20, 2) := by decide +kernel
theorem dX7_init_124 : decode cX7_init 124 = .ok (.if_icmp .ge 17, 3) := by decide +kernel
theorem dX7_init_127 : decode cX7_init 127 = .ok (.aload_n 0, 1) := by decide +kernel
theorem dX7_init_128 : decode cX7_init 128 = .ok (.getfield 19, 3) := by decide +kernel
theorem dX7_init_131 : decode cX7_init 131 = .ok (.iload_n 1, 1) := by decide +kernel
theorem dX7_init_132 : decode cX7_init 132 = .ok (.bipush 7, 2) := by decide +kernel
theorem dX7_init_134 : decode cX7_init 134 = .ok (.iastore, 1) := by decide +kernel
theorem dX7_init_135 : decode cX7_init 135 = .ok (.iinc 1 1, 3) := by decide +kernel
theorem dX7_init_138 : decode cX7_init 138 = .ok (.goto (-17), 3) := by decide +kernel
theorem dX7_init_141 : decode cX7_init 141 = .ok (.iconst 0, 1) := by decide +kernel
theorem dX7_init_142 : decode cX7_init 142 = .ok (.istore_n 1, 1) := by decide +kernel
theorem dX7_init_143 : decode cX7_init 143 = .ok (.iload_n 1, 1) := by decide +kernel
theorem dX7_init_144 : decode cX7_init 144 = .ok (.iconst 4, 1) := by decide +kernel
theorem dX7_init_145 : decode cX7_init 145 = .ok (.if_icmp .ge 17, 3) := by decide +kernel
theorem dX7_init_148 : decode cX7_init 148 = .ok (.aload_n 0, 1) := by decide +kernel
theorem dX7_init_149 : decode cX7_init 149 = .ok (.getfield 13, 3) := by decide +kernel
theorem dX7_init_152 : decode cX7_init 152 = .ok (.iload_n 1, 1) := by decide +kernel
theorem dX7_init_153 : decode cX7_init 153 = .ok (.bipush (-9), 2) := by decide +kernel
theorem dX7_init_155 : decode cX7_init 155 = .ok (.iastore, 1) := by decide +kernel
theorem dX7_init_156 : decode cX7_init 156 = .ok (.iinc 1 1, 3) := by decide +kernel
theorem dX7_init_159 : decode cX7_init 159 = .ok (.goto (-16), 3) := by decide +kernel
theorem dX7_init_162 : decode cX7_init 162 = .ok (.return_, 1) := by decide +kernel
def LB_X7_init_143 (G143 : (Int32 × CS) → Prop)  (x1 : Int32) (s0 : CS) (Q : CS → Prop) : Prop := (((4 : Int32) ≤ x1 → Q s0) ∧ (¬ (4 : Int32) ≤ x1 → vp_in x1 4 ∧ ∀ s0_3 : CS, s0_3 = sA s0 3 x1.toNatClampNeg (-9 : Int32) → ∀ x1_4 : Int32, x1_4 = x1 + (1 : Int32) → G143 (x1_4, s0_3)))
def B_X7_init_143  (x1 : Int32) (s0 : CS) (Q : CS → Prop) : Prop := LOOP (fun (G143 : (Int32 × CS) → Prop) z => LB_X7_init_143 G143  z.1 z.2 Q) (x1, s0)
def LB_X7_init_121 (G121 : (Int32 × CS) → Prop)  (x1 : Int32) (s0 : CS) (Q : CS → Prop) : Prop := (((20 : Int32) ≤ x1 → B_X7_init_143  (0 : Int32) s0 Q) ∧ (¬ (20 : Int32) ≤ x1 → vp_in x1 70 ∧ ∀ s0_7 : CS, s0_7 = sA s0 5 x1.toNatClampNeg (7 : Int32) → ∀ x1_8 : Int32, x1_8 = x1 + (1 : Int32) → G121 (x1_8, s0_7)))
def B_X7_init_121  (x1 : Int32) (s0 : CS) (Q : CS → Prop) : Prop := LOOP (fun (G121 : (Int32 × CS) → Prop) z => LB_X7_init_121 G121  z.1 z.2 Q) (x1, s0)
def wp_X7_init (s0 : CS) (Q : CS → Prop) : Prop := B_X7_init_121  (0 : Int32) s0 Q
def st1 (i : Nat) : CS := (fun _ => 0, fun k => if k = 5 then (fun j => if j < i then 7 else 0) else fun _ => 0, 0)
def st2 (i : Nat) : CS := (fun _ => 0, fun k => if k = 3 then (fun j => if j < i then -9 else 0) else if k = 5 then now0 else fun _ => 0, 0)
theorem st1_0 : mi = st1 0 := Prod.ext rfl (Prod.ext (funext fun k => funext fun j => by by_cases h : k = 5 <;> simp [st1, mi, h]) rfl)
theorem st1_s (i : Nat) : sA (st1 i) 5 i 7 = st1 (i + 1) := Prod.ext rfl (Prod.ext (funext fun k => funext fun j => by
  by_cases h : k = 5
  · subst h
    by_cases hj : j = i
    · simp [sA, sF, st1, va_up, upd, hj]
    · have e : (j < i + 1) ↔ (j < i) := by omega
      simp [sA, sF, st1, va_up, upd, hj, e]
  · simp [sA, sF, st1, va_up, h]) rfl)
theorem st2_0 : st1 20 = st2 0 := Prod.ext rfl (Prod.ext (funext fun k => funext fun j => by
  by_cases h : k = 3
  · subst h; simp [st1, st2]
  · by_cases h5 : k = 5 <;> simp [st1, st2, h, h5, now0]) rfl)
theorem st2_s (i : Nat) : sA (st2 i) 3 i (-9) = st2 (i + 1) := Prod.ext rfl (Prod.ext (funext fun k => funext fun j => by
  by_cases h : k = 3
  · subst h
    by_cases hj : j = i
    · simp [sA, sF, st2, va_up, upd, hj]
    · have e : (j < i + 1) ↔ (j < i) := by omega
      simp [sA, sF, st2, va_up, upd, hj, e]
  · simp [sA, sF, st2, va_up, h]) rfl)
theorem st2_4 : st2 4 = m0 := Prod.ext rfl (Prod.ext (funext fun k => funext fun j => by
  by_cases h : k = 3
  · subst h; simp [st2, m0, paste0]
  · simp [st2, m0, h]) rfl)
theorem mtail_spec : wp_X7_init mi (fun z => z = m0) := by
  unfold wp_X7_init B_X7_init_121
  refine LOOP_m (fun z => ∃ i, i ≤ 20 ∧ z.1 = nI i ∧ z.2 = st1 i) (fun z => 20 - z.1.toNatClampNeg) _ ⟨0, by omega, nI_0.symm, st1_0⟩ ?_
  rintro ⟨x1, s0⟩ G ⟨i, hi, h1, h2⟩ hG
  dsimp only at h1 h2 hG ⊢
  subst h1 h2
  unfold LB_X7_init_121
  have e20 : (20 : Int32) = nI 20 := rfl
  refine br_c (fun c => ?_) (fun c => ?_)
  · rw [e20] at c
    have hle := (nI_leI (by decide) (by omega)).mp c
    have hi2 : i = 20 := by omega
    subst hi2
    rw [st2_0]
    unfold B_X7_init_143
    refine LOOP_m (fun z => ∃ i, i ≤ 4 ∧ z.1 = nI i ∧ z.2 = st2 i) (fun z => 4 - z.1.toNatClampNeg) _ ⟨0, by omega, nI_0.symm, rfl⟩ ?_
    rintro ⟨x1, s0⟩ G ⟨i, hi, h1, h2⟩ hG
    dsimp only at h1 h2 hG ⊢
    subst h1 h2
    unfold LB_X7_init_143
    have e4 : (4 : Int32) = nI 4 := rfl
    refine br_c (fun c => ?_) (fun c => ?_)
    · rw [e4] at c
      have hle := (nI_leI (by decide) (by omega)).mp c
      have hi2 : i = 4 := by omega
      subst hi2
      exact st2_4
    · rw [e4] at c
      have hlt : i < 4 := by
        rcases Nat.lt_or_ge i 4 with q | q
        · exact q
        · exact absurd (nI_le q (by omega)) c
      refine ⟨vp_in_nI hlt (by decide), ?_⟩
      intro s1 hs1 x2 hx2
      rw [nI_clamp (by omega), st2_s] at hs1
      subst hs1 hx2
      refine hG _ ⟨i + 1, by omega, nI_1 i, rfl⟩ ?_
      show 4 - (nI i + 1).toNatClampNeg < 4 - (nI i).toNatClampNeg
      rw [nI_1, nI_clamp (by omega), nI_clamp (by omega)]
      omega
  · rw [e20] at c
    have hlt : i < 20 := by
      rcases Nat.lt_or_ge i 20 with q | q
      · exact q
      · exact absurd (nI_le q (by omega)) c
    refine ⟨vp_in_nI (by omega) (by decide), ?_⟩
    intro s1 hs1 x2 hx2
    rw [nI_clamp (by omega), st1_s] at hs1
    subst hs1 hx2
    refine hG _ ⟨i + 1, by omega, nI_1 i, rfl⟩ ?_
    show 20 - (nI i + 1).toNatClampNeg < 20 - (nI i).toNatClampNeg
    rw [nI_1, nI_clamp (by omega), nI_clamp (by omega)]
    omega

set_option maxHeartbeats 8000000 in
set_option maxRecDepth 100000 in
theorem c_X7_init (l : Launch) (D : va_G) (cI cZ cW : ClassId) (sz a : Nat) : Met l yX7_init (wsA yX7_init cX7_init 2 none) ({ frames := 1, cells := 15, slots := 754, locals := 12 }) (PW D cI cZ cW [.ref a] [(a, .inr (5, [.int 0, .int 0, .null, .null, .null, .null, .null, .null, .null, .int 0, .int 0, .int 0, .int 0, .null, .int 0, .int 0, .int 0, .int 0, .int 0, .null, .null, .int 0, .null, .null, .null, .long 0, .null, .null]))] sz) (va_Qv (fun u : Nat → Nat => a = u 0) (fun u t => va_P D classes (wM cI cZ u m0) t.heap ∧ va_D (va_A [(a, .inr (5, [.int 0, .int 0, .null, .null, .null, .null, .null, .null, .null, .int 0, .int 0, .int 0, .int 0, .null, .int 0, .int 0, .int 0, .int 0, .int 0, .null, .null, .int 0, .null, .null, .null, .long 0, .null, .null]))] sz) (wM cI cZ u m0)) (va_A [(a, .inr (5, [.int 0, .int 0, .null, .null, .null, .null, .null, .null, .null, .int 0, .int 0, .int 0, .int 0, .null, .int 0, .int 0, .int 0, .int 0, .int 0, .null, .null, .int 0, .null, .null, .null, .long 0, .null, .null]))] sz)) 15 754 (va_A [(a, .inr (5, [.int 0, .int 0, .null, .null, .null, .null, .null, .null, .null, .int 0, .int 0, .int 0, .int 0, .null, .int 0, .int 0, .int 0, .int 0, .int 0, .null, .null, .int 0, .null, .null, .null, .long 0, .null, .null]))] sz) := by
  refine Met.ofW (cc := cX7_init) (maxL := 2) (ret := none) (by decide) rfl ?_
  intro p e s m args below meth c s₁ B hml hv
  obtain ⟨rfl, hsz, hP, hK, hD0⟩ := hv
  have hx := B.exec
  have hb := B.bytes
  have hr := B.returns
  have hts := atoms_spec (ws := (wsA yX7_init cX7_init 2 none)) B.pre
  have ht : ∀ w ∈ lw_g, w.before _ s = true := fun w h => hts w (List.mem_cons_of_mem _ h)
  have hown : s.vm.findClass RX7 = some m.cls := findClass_of_methodNamed B.named
  have hlocks := B.notSynchronized
  have hin : meth.name = "<init>" := (name_of_methodNamed B.named B.method).1
  subst hsz
  have hD := hD0.self (sz := s.heap.size)
  generalize hAe : va_A [(a, .inr (5, [.int 0, .int 0, .null, .null, .null, .null, .null, .null, .null, .int 0, .int 0, .int 0, .int 0, .null, .int 0, .int 0, .int 0, .int 0, .int 0, .null, .null, .int 0, .null, .null, .null, .long 0, .null, .null]))] s.heap.size = A at hD ⊢
  have hA : ∀ q : Nat, s.heap.size ≤ q → A q := fun q h => by rw [← hAe]; exact Or.inr h
  have hS : va_S A s.heap s.heap [] := va_S.rf
  have hl := lv_entry ([.ref a]) (n := 2) (Nat.le_of_ble_eq_true rfl)
  rw [lg_entry_eq]
  generalize (lg_sl ([.ref a]) ++ List.replicate (2 - (lg_sl ([.ref a])).length) Slot.unset).toArray = ls at hl ⊢
  have hl : lv_has ls 2 [(0, .ref a)] := hl
  refine lv_aload_n hx hb dX7_init_0 rfl (lv_at hl 0 rfl) ?_
  refine W.objInit hx hb hown (ht _ tw_654) (ht _ tw_19) (ht _ tw_20) rfl (by rw [hml]; exact hl.1) rfl dX7_init_1 (Nat.le_of_ble_eq_true rfl) (Nat.le_of_ble_eq_true rfl) ?_
  refine W.eq (g2 := F0 m 4 ls []) rfl ?_
  refine lv_aload_n hx hb dX7_init_4 rfl (lv_at hl 0 rfl) ?_
  refine lv_iconst (v := (4 : Int32)) hx hb dX7_init_5 (by decide) ?_
  refine va_newI (N' := 4) hx hb (ht _ tw_83) hK hP hD hS hA (by decide) rfl (by decide) (Nat.le_of_ble_eq_true rfl) (Nat.le_of_ble_eq_true rfl) dX7_init_6 (fun q1 H hP hD hS => ?_)
  simp only [List.append_assoc, List.cons_append, List.nil_append] at hP hD
  have hP : va_P D classes ((a, .inr (5, [.int 0, .int 0, .null, .null, .null, .null, .null, .null, .null, .int 0, .int 0, .int 0, .int 0, .null, .int 0, .int 0, .int 0, .int 0, .int 0, .null, .null, .int 0, .null, .null, .null, .long 0, .null, .null])) :: ([(q1, .inl (cI, 4, .inl (fun _ => 0)))])) H := hP
  have hD : va_D A ((a, .inr (5, [.int 0, .int 0, .null, .null, .null, .null, .null, .null, .null, .int 0, .int 0, .int 0, .int 0, .null, .int 0, .int 0, .int 0, .int 0, .int 0, .null, .null, .int 0, .null, .null, .null, .long 0, .null, .null])) :: ([(q1, .inl (cI, 4, .inl (fun _ => 0)))])) := hD
  refine W.widen (k := 1) (n := 4) (by omega) (by omega) ?_
  refine W.eq (g2 := F0 m 8 ls [.ref q1, .ref a]) rfl ?_
  refine va_putF (D := D) (ci := 5) (v := .ref q1) (ty := (.array .int)) (C := RX7) (T := TX7) (N := 28) hx hb ht inX7 tyX7 tyX7_ok nmX7 hown hK hP hD hS 0 rfl rfl 2 (by decide) (ht _ tw_657) (fun _ h9 => h9) rfl hin rfl (by decide +kernel) rfl rfl (Nat.le_of_ble_eq_true rfl) dX7_init_8 (fun H locs hP hD hS => ?_)
  have hP : va_P D classes ((a, .inr (5, [.int 0, .int 0, .ref q1, .null, .null, .null, .null, .null, .null, .int 0, .int 0, .int 0, .int 0, .null, .int 0, .int 0, .int 0, .int 0, .int 0, .null, .null, .int 0, .null, .null, .null, .long 0, .null, .null])) :: ([(q1, .inl (cI, 4, .inl (fun _ => 0)))])) H := hP
  have hD : va_D A ((a, .inr (5, [.int 0, .int 0, .ref q1, .null, .null, .null, .null, .null, .null, .int 0, .int 0, .int 0, .int 0, .null, .int 0, .int 0, .int 0, .int 0, .int 0, .null, .null, .int 0, .null, .null, .null, .long 0, .null, .null])) :: ([(q1, .inl (cI, 4, .inl (fun _ => 0)))])) := hD
  refine W.eq (g2 := F0 m 11 ls []) rfl ?_
  refine lv_aload_n hx hb dX7_init_11 rfl (lv_at hl 0 rfl) ?_
  refine lv_iconst (v := (4 : Int32)) hx hb dX7_init_12 (by decide) ?_
  refine va_newI (N' := 4) hx hb (ht _ tw_83) hK hP hD hS hA (by decide) rfl (by decide) (Nat.le_of_ble_eq_true rfl) (Nat.le_of_ble_eq_true rfl) dX7_init_13 (fun q2 H hP hD hS => ?_)
  simp only [List.append_assoc, List.cons_append, List.nil_append] at hP hD
  have hP : va_P D classes ((a, .inr (5, [.int 0, .int 0, .ref q1, .null, .null, .null, .null, .null, .null, .int 0, .int 0, .int 0, .int 0, .null, .int 0, .int 0, .int 0, .int 0, .int 0, .null, .null, .int 0, .null, .null, .null, .long 0, .null, .null])) :: ([(q1, .inl (cI, 4, .inl (fun _ => 0)))] ++ ([(q2, .inl (cI, 4, .inl (fun _ => 0)))]))) H := hP
  have hD : va_D A ((a, .inr (5, [.int 0, .int 0, .ref q1, .null, .null, .null, .null, .null, .null, .int 0, .int 0, .int 0, .int 0, .null, .int 0, .int 0, .int 0, .int 0, .int 0, .null, .null, .int 0, .null, .null, .null, .long 0, .null, .null])) :: ([(q1, .inl (cI, 4, .inl (fun _ => 0)))] ++ ([(q2, .inl (cI, 4, .inl (fun _ => 0)))]))) := hD
  refine W.widen (k := 2) (n := 8) (by omega) (by omega) ?_
  refine W.eq (g2 := F0 m 15 ls [.ref q2, .ref a]) rfl ?_
  refine va_putF (D := D) (ci := 5) (v := .ref q2) (ty := (.array .int)) (C := RX7) (T := TX7) (N := 28) hx hb ht inX7 tyX7 tyX7_ok nmX7 hown hK hP hD hS 0 rfl rfl 3 (by decide) (ht _ tw_658) (fun _ h9 => h9) rfl hin rfl (by decide +kernel) rfl rfl (Nat.le_of_ble_eq_true rfl) dX7_init_15 (fun H locs hP hD hS => ?_)
  have hP : va_P D classes ((a, .inr (5, [.int 0, .int 0, .ref q1, .ref q2, .null, .null, .null, .null, .null, .int 0, .int 0, .int 0, .int 0, .null, .int 0, .int 0, .int 0, .int 0, .int 0, .null, .null, .int 0, .null, .null, .null, .long 0, .null, .null])) :: ([(q1, .inl (cI, 4, .inl (fun _ => 0)))] ++ ([(q2, .inl (cI, 4, .inl (fun _ => 0)))]))) H := hP
  have hD : va_D A ((a, .inr (5, [.int 0, .int 0, .ref q1, .ref q2, .null, .null, .null, .null, .null, .int 0, .int 0, .int 0, .int 0, .null, .int 0, .int 0, .int 0, .int 0, .int 0, .null, .null, .int 0, .null, .null, .null, .long 0, .null, .null])) :: ([(q1, .inl (cI, 4, .inl (fun _ => 0)))] ++ ([(q2, .inl (cI, 4, .inl (fun _ => 0)))]))) := hD
  refine W.eq (g2 := F0 m 18 ls []) rfl ?_
  refine lv_aload_n hx hb dX7_init_18 rfl (lv_at hl 0 rfl) ?_
  refine lv_iconst (v := (5 : Int32)) hx hb dX7_init_19 (by decide) ?_
  refine va_newI (N' := 5) hx hb (ht _ tw_83) hK hP hD hS hA (by decide) rfl (by decide) (Nat.le_of_ble_eq_true rfl) (Nat.le_of_ble_eq_true rfl) dX7_init_20 (fun q3 H hP hD hS => ?_)
  simp only [List.append_assoc, List.cons_append, List.nil_append] at hP hD
  have hP : va_P D classes ((a, .inr (5, [.int 0, .int 0, .ref q1, .ref q2, .null, .null, .null, .null, .null, .int 0, .int 0, .int 0, .int 0, .null, .int 0, .int 0, .int 0, .int 0, .int 0, .null, .null, .int 0, .null, .null, .null, .long 0, .null, .null])) :: ([(q1, .inl (cI, 4, .inl (fun _ => 0)))] ++ ([(q2, .inl (cI, 4, .inl (fun _ => 0)))] ++ ([(q3, .inl (cI, 5, .inl (fun _ => 0)))])))) H := hP
  have hD : va_D A ((a, .inr (5, [.int 0, .int 0, .ref q1, .ref q2, .null, .null, .null, .null, .null, .int 0, .int 0, .int 0, .int 0, .null, .int 0, .int 0, .int 0, .int 0, .int 0, .null, .null, .int 0, .null, .null, .null, .long 0, .null, .null])) :: ([(q1, .inl (cI, 4, .inl (fun _ => 0)))] ++ ([(q2, .inl (cI, 4, .inl (fun _ => 0)))] ++ ([(q3, .inl (cI, 5, .inl (fun _ => 0)))])))) := hD
  refine W.widen (k := 3) (n := 13) (by omega) (by omega) ?_
  refine W.eq (g2 := F0 m 22 ls [.ref q3, .ref a]) rfl ?_
  refine va_putF (D := D) (ci := 5) (v := .ref q3) (ty := (.array .int)) (C := RX7) (T := TX7) (N := 28) hx hb ht inX7 tyX7 tyX7_ok nmX7 hown hK hP hD hS 0 rfl rfl 4 (by decide) (ht _ tw_659) (fun _ h9 => h9) rfl hin rfl (by decide +kernel) rfl rfl (Nat.le_of_ble_eq_true rfl) dX7_init_22 (fun H locs hP hD hS => ?_)
  have hP : va_P D classes ((a, .inr (5, [.int 0, .int 0, .ref q1, .ref q2, .ref q3, .null, .null, .null, .null, .int 0, .int 0, .int 0, .int 0, .null, .int 0, .int 0, .int 0, .int 0, .int 0, .null, .null, .int 0, .null, .null, .null, .long 0, .null, .null])) :: ([(q1, .inl (cI, 4, .inl (fun _ => 0)))] ++ ([(q2, .inl (cI, 4, .inl (fun _ => 0)))] ++ ([(q3, .inl (cI, 5, .inl (fun _ => 0)))])))) H := hP
  have hD : va_D A ((a, .inr (5, [.int 0, .int 0, .ref q1, .ref q2, .ref q3, .null, .null, .null, .null, .int 0, .int 0, .int 0, .int 0, .null, .int 0, .int 0, .int 0, .int 0, .int 0, .null, .null, .int 0, .null, .null, .null, .long 0, .null, .null])) :: ([(q1, .inl (cI, 4, .inl (fun _ => 0)))] ++ ([(q2, .inl (cI, 4, .inl (fun _ => 0)))] ++ ([(q3, .inl (cI, 5, .inl (fun _ => 0)))])))) := hD
  refine W.eq (g2 := F0 m 25 ls []) rfl ?_
  refine lv_aload_n hx hb dX7_init_25 rfl (lv_at hl 0 rfl) ?_
  refine lv_bipush (v := (70 : Int32)) hx hb dX7_init_26 (by decide) ?_
  refine va_newI (N' := 70) hx hb (ht _ tw_83) hK hP hD hS hA (by decide) rfl (by decide) (Nat.le_of_ble_eq_true rfl) (Nat.le_of_ble_eq_true rfl) dX7_init_28 (fun q4 H hP hD hS => ?_)
  simp only [List.append_assoc, List.cons_append, List.nil_append] at hP hD
  have hP : va_P D classes ((a, .inr (5, [.int 0, .int 0, .ref q1, .ref q2, .ref q3, .null, .null, .null, .null, .int 0, .int 0, .int 0, .int 0, .null, .int 0, .int 0, .int 0, .int 0, .int 0, .null, .null, .int 0, .null, .null, .null, .long 0, .null, .null])) :: ([(q1, .inl (cI, 4, .inl (fun _ => 0)))] ++ ([(q2, .inl (cI, 4, .inl (fun _ => 0)))] ++ ([(q3, .inl (cI, 5, .inl (fun _ => 0)))] ++ ([(q4, .inl (cI, 70, .inl (fun _ => 0)))]))))) H := hP
  have hD : va_D A ((a, .inr (5, [.int 0, .int 0, .ref q1, .ref q2, .ref q3, .null, .null, .null, .null, .int 0, .int 0, .int 0, .int 0, .null, .int 0, .int 0, .int 0, .int 0, .int 0, .null, .null, .int 0, .null, .null, .null, .long 0, .null, .null])) :: ([(q1, .inl (cI, 4, .inl (fun _ => 0)))] ++ ([(q2, .inl (cI, 4, .inl (fun _ => 0)))] ++ ([(q3, .inl (cI, 5, .inl (fun _ => 0)))] ++ ([(q4, .inl (cI, 70, .inl (fun _ => 0)))]))))) := hD
  refine W.widen (k := 4) (n := 83) (by omega) (by omega) ?_
  refine W.eq (g2 := F0 m 30 ls [.ref q4, .ref a]) rfl ?_
  refine va_putF (D := D) (ci := 5) (v := .ref q4) (ty := (.array .int)) (C := RX7) (T := TX7) (N := 28) hx hb ht inX7 tyX7 tyX7_ok nmX7 hown hK hP hD hS 0 rfl rfl 5 (by decide) (ht _ tw_660) (fun _ h9 => h9) rfl hin rfl (by decide +kernel) rfl rfl (Nat.le_of_ble_eq_true rfl) dX7_init_30 (fun H locs hP hD hS => ?_)
  have hP : va_P D classes ((a, .inr (5, [.int 0, .int 0, .ref q1, .ref q2, .ref q3, .ref q4, .null, .null, .null, .int 0, .int 0, .int 0, .int 0, .null, .int 0, .int 0, .int 0, .int 0, .int 0, .null, .null, .int 0, .null, .null, .null, .long 0, .null, .null])) :: ([(q1, .inl (cI, 4, .inl (fun _ => 0)))] ++ ([(q2, .inl (cI, 4, .inl (fun _ => 0)))] ++ ([(q3, .inl (cI, 5, .inl (fun _ => 0)))] ++ ([(q4, .inl (cI, 70, .inl (fun _ => 0)))]))))) H := hP
  have hD : va_D A ((a, .inr (5, [.int 0, .int 0, .ref q1, .ref q2, .ref q3, .ref q4, .null, .null, .null, .int 0, .int 0, .int 0, .int 0, .null, .int 0, .int 0, .int 0, .int 0, .int 0, .null, .null, .int 0, .null, .null, .null, .long 0, .null, .null])) :: ([(q1, .inl (cI, 4, .inl (fun _ => 0)))] ++ ([(q2, .inl (cI, 4, .inl (fun _ => 0)))] ++ ([(q3, .inl (cI, 5, .inl (fun _ => 0)))] ++ ([(q4, .inl (cI, 70, .inl (fun _ => 0)))]))))) := hD
  refine W.eq (g2 := F0 m 33 ls []) rfl ?_
  refine lv_aload_n hx hb dX7_init_33 rfl (lv_at hl 0 rfl) ?_
  refine lv_iconst (v := (4 : Int32)) hx hb dX7_init_34 (by decide) ?_
  refine va_newI (N' := 4) hx hb (ht _ tw_83) hK hP hD hS hA (by decide) rfl (by decide) (Nat.le_of_ble_eq_true rfl) (Nat.le_of_ble_eq_true rfl) dX7_init_35 (fun q5 H hP hD hS => ?_)
  simp only [List.append_assoc, List.cons_append, List.nil_append] at hP hD
  have hP : va_P D classes ((a, .inr (5, [.int 0, .int 0, .ref q1, .ref q2, .ref q3, .ref q4, .null, .null, .null, .int 0, .int 0, .int 0, .int 0, .null, .int 0, .int 0, .int 0, .int 0, .int 0, .null, .null, .int 0, .null, .null, .null, .long 0, .null, .null])) :: ([(q1, .inl (cI, 4, .inl (fun _ => 0)))] ++ ([(q2, .inl (cI, 4, .inl (fun _ => 0)))] ++ ([(q3, .inl (cI, 5, .inl (fun _ => 0)))] ++ ([(q4, .inl (cI, 70, .inl (fun _ => 0)))] ++ ([(q5, .inl (cI, 4, .inl (fun _ => 0)))])))))) H := hP
  have hD : va_D A ((a, .inr (5, [.int 0, .int 0, .ref q1, .ref q2, .ref q3, .ref q4, .null, .null, .null, .int 0, .int 0, .int 0, .int 0, .null, .int 0, .int 0, .int 0, .int 0, .int 0, .null, .null, .int 0, .null, .null, .null, .long 0, .null, .null])) :: ([(q1, .inl (cI, 4, .inl (fun _ => 0)))] ++ ([(q2, .inl (cI, 4, .inl (fun _ => 0)))] ++ ([(q3, .inl (cI, 5, .inl (fun _ => 0)))] ++ ([(q4, .inl (cI, 70, .inl (fun _ => 0)))] ++ ([(q5, .inl (cI, 4, .inl (fun _ => 0)))])))))) := hD
  refine W.widen (k := 5) (n := 87) (by omega) (by omega) ?_
  refine W.eq (g2 := F0 m 37 ls [.ref q5, .ref a]) rfl ?_
  refine va_putF (D := D) (ci := 5) (v := .ref q5) (ty := (.array .int)) (C := RX7) (T := TX7) (N := 28) hx hb ht inX7 tyX7 tyX7_ok nmX7 hown hK hP hD hS 0 rfl rfl 6 (by decide) (ht _ tw_661) (fun _ h9 => h9) rfl hin rfl (by decide +kernel) rfl rfl (Nat.le_of_ble_eq_true rfl) dX7_init_37 (fun H locs hP hD hS => ?_)
  have hP : va_P D classes ((a, .inr (5, [.int 0, .int 0, .ref q1, .ref q2, .ref q3, .ref q4, .ref q5, .null, .null, .int 0, .int 0, .int 0, .int 0, .null, .int 0, .int 0, .int 0, .int 0, .int 0, .null, .null, .int 0, .null, .null, .null, .long 0, .null, .null])) :: ([(q1, .inl (cI, 4, .inl (fun _ => 0)))] ++ ([(q2, .inl (cI, 4, .inl (fun _ => 0)))] ++ ([(q3, .inl (cI, 5, .inl (fun _ => 0)))] ++ ([(q4, .inl (cI, 70, .inl (fun _ => 0)))] ++ ([(q5, .inl (cI, 4, .inl (fun _ => 0)))])))))) H := hP
  have hD : va_D A ((a, .inr (5, [.int 0, .int 0, .ref q1, .ref q2, .ref q3, .ref q4, .ref q5, .null, .null, .int 0, .int 0, .int 0, .int 0, .null, .int 0, .int 0, .int 0, .int 0, .int 0, .null, .null, .int 0, .null, .null, .null, .long 0, .null, .null])) :: ([(q1, .inl (cI, 4, .inl (fun _ => 0)))] ++ ([(q2, .inl (cI, 4, .inl (fun _ => 0)))] ++ ([(q3, .inl (cI, 5, .inl (fun _ => 0)))] ++ ([(q4, .inl (cI, 70, .inl (fun _ => 0)))] ++ ([(q5, .inl (cI, 4, .inl (fun _ => 0)))])))))) := hD
  refine W.eq (g2 := F0 m 40 ls []) rfl ?_
  refine lv_aload_n hx hb dX7_init_40 rfl (lv_at hl 0 rfl) ?_
  refine lv_iconst (v := (4 : Int32)) hx hb dX7_init_41 (by decide) ?_
  refine va_newI (N' := 4) hx hb (ht _ tw_83) hK hP hD hS hA (by decide) rfl (by decide) (Nat.le_of_ble_eq_true rfl) (Nat.le_of_ble_eq_true rfl) dX7_init_42 (fun q6 H hP hD hS => ?_)
  simp only [List.append_assoc, List.cons_append, List.nil_append] at hP hD
  have hP : va_P D classes ((a, .inr (5, [.int 0, .int 0, .ref q1, .ref q2, .ref q3, .ref q4, .ref q5, .null, .null, .int 0, .int 0, .int 0, .int 0, .null, .int 0, .int 0, .int 0, .int 0, .int 0, .null, .null, .int 0, .null, .null, .null, .long 0, .null, .null])) :: ([(q1, .inl (cI, 4, .inl (fun _ => 0)))] ++ ([(q2, .inl (cI, 4, .inl (fun _ => 0)))] ++ ([(q3, .inl (cI, 5, .inl (fun _ => 0)))] ++ ([(q4, .inl (cI, 70, .inl (fun _ => 0)))] ++ ([(q5, .inl (cI, 4, .inl (fun _ => 0)))] ++ ([(q6, .inl (cI, 4, .inl (fun _ => 0)))]))))))) H := hP
  have hD : va_D A ((a, .inr (5, [.int 0, .int 0, .ref q1, .ref q2, .ref q3, .ref q4, .ref q5, .null, .null, .int 0, .int 0, .int 0, .int 0, .null, .int 0, .int 0, .int 0, .int 0, .int 0, .null, .null, .int 0, .null, .null, .null, .long 0, .null, .null])) :: ([(q1, .inl (cI, 4, .inl (fun _ => 0)))] ++ ([(q2, .inl (cI, 4, .inl (fun _ => 0)))] ++ ([(q3, .inl (cI, 5, .inl (fun _ => 0)))] ++ ([(q4, .inl (cI, 70, .inl (fun _ => 0)))] ++ ([(q5, .inl (cI, 4, .inl (fun _ => 0)))] ++ ([(q6, .inl (cI, 4, .inl (fun _ => 0)))]))))))) := hD
  refine W.widen (k := 6) (n := 91) (by omega) (by omega) ?_
  refine W.eq (g2 := F0 m 44 ls [.ref q6, .ref a]) rfl ?_
  refine va_putF (D := D) (ci := 5) (v := .ref q6) (ty := (.array .int)) (C := RX7) (T := TX7) (N := 28) hx hb ht inX7 tyX7 tyX7_ok nmX7 hown hK hP hD hS 0 rfl rfl 7 (by decide) (ht _ tw_662) (fun _ h9 => h9) rfl hin rfl (by decide +kernel) rfl rfl (Nat.le_of_ble_eq_true rfl) dX7_init_44 (fun H locs hP hD hS => ?_)
  have hP : va_P D classes ((a, .inr (5, [.int 0, .int 0, .ref q1, .ref q2, .ref q3, .ref q4, .ref q5, .ref q6, .null, .int 0, .int 0, .int 0, .int 0, .null, .int 0, .int 0, .int 0, .int 0, .int 0, .null, .null, .int 0, .null, .null, .null, .long 0, .null, .null])) :: ([(q1, .inl (cI, 4, .inl (fun _ => 0)))] ++ ([(q2, .inl (cI, 4, .inl (fun _ => 0)))] ++ ([(q3, .inl (cI, 5, .inl (fun _ => 0)))] ++ ([(q4, .inl (cI, 70, .inl (fun _ => 0)))] ++ ([(q5, .inl (cI, 4, .inl (fun _ => 0)))] ++ ([(q6, .inl (cI, 4, .inl (fun _ => 0)))]))))))) H := hP
  have hD : va_D A ((a, .inr (5, [.int 0, .int 0, .ref q1, .ref q2, .ref q3, .ref q4, .ref q5, .ref q6, .null, .int 0, .int 0, .int 0, .int 0, .null, .int 0, .int 0, .int 0, .int 0, .int 0, .null, .null, .int 0, .null, .null, .null, .long 0, .null, .null])) :: ([(q1, .inl (cI, 4, .inl (fun _ => 0)))] ++ ([(q2, .inl (cI, 4, .inl (fun _ => 0)))] ++ ([(q3, .inl (cI, 5, .inl (fun _ => 0)))] ++ ([(q4, .inl (cI, 70, .inl (fun _ => 0)))] ++ ([(q5, .inl (cI, 4, .inl (fun _ => 0)))] ++ ([(q6, .inl (cI, 4, .inl (fun _ => 0)))]))))))) := hD
  refine W.eq (g2 := F0 m 47 ls []) rfl ?_
  refine lv_aload_n hx hb dX7_init_47 rfl (lv_at hl 0 rfl) ?_
  refine lv_bipush (v := (15 : Int32)) hx hb dX7_init_48 (by decide) ?_
  refine va_newI (N' := 15) hx hb (ht _ tw_83) hK hP hD hS hA (by decide) rfl (by decide) (Nat.le_of_ble_eq_true rfl) (Nat.le_of_ble_eq_true rfl) dX7_init_50 (fun q7 H hP hD hS => ?_)
  simp only [List.append_assoc, List.cons_append, List.nil_append] at hP hD
  have hP : va_P D classes ((a, .inr (5, [.int 0, .int 0, .ref q1, .ref q2, .ref q3, .ref q4, .ref q5, .ref q6, .null, .int 0, .int 0, .int 0, .int 0, .null, .int 0, .int 0, .int 0, .int 0, .int 0, .null, .null, .int 0, .null, .null, .null, .long 0, .null, .null])) :: ([(q1, .inl (cI, 4, .inl (fun _ => 0)))] ++ ([(q2, .inl (cI, 4, .inl (fun _ => 0)))] ++ ([(q3, .inl (cI, 5, .inl (fun _ => 0)))] ++ ([(q4, .inl (cI, 70, .inl (fun _ => 0)))] ++ ([(q5, .inl (cI, 4, .inl (fun _ => 0)))] ++ ([(q6, .inl (cI, 4, .inl (fun _ => 0)))] ++ ([(q7, .inl (cI, 15, .inl (fun _ => 0)))])))))))) H := hP
  have hD : va_D A ((a, .inr (5, [.int 0, .int 0, .ref q1, .ref q2, .ref q3, .ref q4, .ref q5, .ref q6, .null, .int 0, .int 0, .int 0, .int 0, .null, .int 0, .int 0, .int 0, .int 0, .int 0, .null, .null, .int 0, .null, .null, .null, .long 0, .null, .null])) :: ([(q1, .inl (cI, 4, .inl (fun _ => 0)))] ++ ([(q2, .inl (cI, 4, .inl (fun _ => 0)))] ++ ([(q3, .inl (cI, 5, .inl (fun _ => 0)))] ++ ([(q4, .inl (cI, 70, .inl (fun _ => 0)))] ++ ([(q5, .inl (cI, 4, .inl (fun _ => 0)))] ++ ([(q6, .inl (cI, 4, .inl (fun _ => 0)))] ++ ([(q7, .inl (cI, 15, .inl (fun _ => 0)))])))))))) := hD
  refine W.widen (k := 7) (n := 106) (by omega) (by omega) ?_
  refine W.eq (g2 := F0 m 52 ls [.ref q7, .ref a]) rfl ?_
  refine va_putF (D := D) (ci := 5) (v := .ref q7) (ty := (.array .int)) (C := RX7) (T := TX7) (N := 28) hx hb ht inX7 tyX7 tyX7_ok nmX7 hown hK hP hD hS 0 rfl rfl 8 (by decide) (ht _ tw_663) (fun _ h9 => h9) rfl hin rfl (by decide +kernel) rfl rfl (Nat.le_of_ble_eq_true rfl) dX7_init_52 (fun H locs hP hD hS => ?_)
  have hP : va_P D classes ((a, .inr (5, [.int 0, .int 0, .ref q1, .ref q2, .ref q3, .ref q4, .ref q5, .ref q6, .ref q7, .int 0, .int 0, .int 0, .int 0, .null, .int 0, .int 0, .int 0, .int 0, .int 0, .null, .null, .int 0, .null, .null, .null, .long 0, .null, .null])) :: ([(q1, .inl (cI, 4, .inl (fun _ => 0)))] ++ ([(q2, .inl (cI, 4, .inl (fun _ => 0)))] ++ ([(q3, .inl (cI, 5, .inl (fun _ => 0)))] ++ ([(q4, .inl (cI, 70, .inl (fun _ => 0)))] ++ ([(q5, .inl (cI, 4, .inl (fun _ => 0)))] ++ ([(q6, .inl (cI, 4, .inl (fun _ => 0)))] ++ ([(q7, .inl (cI, 15, .inl (fun _ => 0)))])))))))) H := hP
  have hD : va_D A ((a, .inr (5, [.int 0, .int 0, .ref q1, .ref q2, .ref q3, .ref q4, .ref q5, .ref q6, .ref q7, .int 0, .int 0, .int 0, .int 0, .null, .int 0, .int 0, .int 0, .int 0, .int 0, .null, .null, .int 0, .null, .null, .null, .long 0, .null, .null])) :: ([(q1, .inl (cI, 4, .inl (fun _ => 0)))] ++ ([(q2, .inl (cI, 4, .inl (fun _ => 0)))] ++ ([(q3, .inl (cI, 5, .inl (fun _ => 0)))] ++ ([(q4, .inl (cI, 70, .inl (fun _ => 0)))] ++ ([(q5, .inl (cI, 4, .inl (fun _ => 0)))] ++ ([(q6, .inl (cI, 4, .inl (fun _ => 0)))] ++ ([(q7, .inl (cI, 15, .inl (fun _ => 0)))])))))))) := hD
  refine W.eq (g2 := F0 m 55 ls []) rfl ?_
  refine lv_aload_n hx hb dX7_init_55 rfl (lv_at hl 0 rfl) ?_
  refine lv_bipush (v := (48 : Int32)) hx hb dX7_init_56 (by decide) ?_
  refine va_newI (N' := 48) hx hb (ht _ tw_83) hK hP hD hS hA (by decide) rfl (by decide) (Nat.le_of_ble_eq_true rfl) (Nat.le_of_ble_eq_true rfl) dX7_init_58 (fun q8 H hP hD hS => ?_)
  simp only [List.append_assoc, List.cons_append, List.nil_append] at hP hD
  have hP : va_P D classes ((a, .inr (5, [.int 0, .int 0, .ref q1, .ref q2, .ref q3, .ref q4, .ref q5, .ref q6, .ref q7, .int 0, .int 0, .int 0, .int 0, .null, .int 0, .int 0, .int 0, .int 0, .int 0, .null, .null, .int 0, .null, .null, .null, .long 0, .null, .null])) :: ([(q1, .inl (cI, 4, .inl (fun _ => 0)))] ++ ([(q2, .inl (cI, 4, .inl (fun _ => 0)))] ++ ([(q3, .inl (cI, 5, .inl (fun _ => 0)))] ++ ([(q4, .inl (cI, 70, .inl (fun _ => 0)))] ++ ([(q5, .inl (cI, 4, .inl (fun _ => 0)))] ++ ([(q6, .inl (cI, 4, .inl (fun _ => 0)))] ++ ([(q7, .inl (cI, 15, .inl (fun _ => 0)))] ++ ([(q8, .inl (cI, 48, .inl (fun _ => 0)))]))))))))) H := hP
  have hD : va_D A ((a, .inr (5, [.int 0, .int 0, .ref q1, .ref q2, .ref q3, .ref q4, .ref q5, .ref q6, .ref q7, .int 0, .int 0, .int 0, .int 0, .null, .int 0, .int 0, .int 0, .int 0, .int 0, .null, .null, .int 0, .null, .null, .null, .long 0, .null, .null])) :: ([(q1, .inl (cI, 4, .inl (fun _ => 0)))] ++ ([(q2, .inl (cI, 4, .inl (fun _ => 0)))] ++ ([(q3, .inl (cI, 5, .inl (fun _ => 0)))] ++ ([(q4, .inl (cI, 70, .inl (fun _ => 0)))] ++ ([(q5, .inl (cI, 4, .inl (fun _ => 0)))] ++ ([(q6, .inl (cI, 4, .inl (fun _ => 0)))] ++ ([(q7, .inl (cI, 15, .inl (fun _ => 0)))] ++ ([(q8, .inl (cI, 48, .inl (fun _ => 0)))]))))))))) := hD
  refine W.widen (k := 8) (n := 154) (by omega) (by omega) ?_
  refine W.eq (g2 := F0 m 60 ls [.ref q8, .ref a]) rfl ?_
  refine va_putF (D := D) (ci := 5) (v := .ref q8) (ty := (.array .int)) (C := RX7) (T := TX7) (N := 28) hx hb ht inX7 tyX7 tyX7_ok nmX7 hown hK hP hD hS 0 rfl rfl 13 (by decide) (ht _ tw_668) (fun _ h9 => h9) rfl hin rfl (by decide +kernel) rfl rfl (Nat.le_of_ble_eq_true rfl) dX7_init_60 (fun H locs hP hD hS => ?_)
  have hP : va_P D classes ((a, .inr (5, [.int 0, .int 0, .ref q1, .ref q2, .ref q3, .ref q4, .ref q5, .ref q6, .ref q7, .int 0, .int 0, .int 0, .int 0, .ref q8, .int 0, .int 0, .int 0, .int 0, .int 0, .null, .null, .int 0, .null, .null, .null, .long 0, .null, .null])) :: ([(q1, .inl (cI, 4, .inl (fun _ => 0)))] ++ ([(q2, .inl (cI, 4, .inl (fun _ => 0)))] ++ ([(q3, .inl (cI, 5, .inl (fun _ => 0)))] ++ ([(q4, .inl (cI, 70, .inl (fun _ => 0)))] ++ ([(q5, .inl (cI, 4, .inl (fun _ => 0)))] ++ ([(q6, .inl (cI, 4, .inl (fun _ => 0)))] ++ ([(q7, .inl (cI, 15, .inl (fun _ => 0)))] ++ ([(q8, .inl (cI, 48, .inl (fun _ => 0)))]))))))))) H := hP
  have hD : va_D A ((a, .inr (5, [.int 0, .int 0, .ref q1, .ref q2, .ref q3, .ref q4, .ref q5, .ref q6, .ref q7, .int 0, .int 0, .int 0, .int 0, .ref q8, .int 0, .int 0, .int 0, .int 0, .int 0, .null, .null, .int 0, .null, .null, .null, .long 0, .null, .null])) :: ([(q1, .inl (cI, 4, .inl (fun _ => 0)))] ++ ([(q2, .inl (cI, 4, .inl (fun _ => 0)))] ++ ([(q3, .inl (cI, 5, .inl (fun _ => 0)))] ++ ([(q4, .inl (cI, 70, .inl (fun _ => 0)))] ++ ([(q5, .inl (cI, 4, .inl (fun _ => 0)))] ++ ([(q6, .inl (cI, 4, .inl (fun _ => 0)))] ++ ([(q7, .inl (cI, 15, .inl (fun _ => 0)))] ++ ([(q8, .inl (cI, 48, .inl (fun _ => 0)))]))))))))) := hD
  refine W.eq (g2 := F0 m 63 ls []) rfl ?_
  refine lv_aload_n hx hb dX7_init_63 rfl (lv_at hl 0 rfl) ?_
  refine lv_sipush (v := (490 : Int32)) hx hb dX7_init_64 (by decide) ?_
  refine va_newI (N' := 490) hx hb (ht _ tw_83) hK hP hD hS hA (by decide) rfl (by decide) (Nat.le_of_ble_eq_true rfl) (Nat.le_of_ble_eq_true rfl) dX7_init_67 (fun q9 H hP hD hS => ?_)
  simp only [List.append_assoc, List.cons_append, List.nil_append] at hP hD
  have hP : va_P D classes ((a, .inr (5, [.int 0, .int 0, .ref q1, .ref q2, .ref q3, .ref q4, .ref q5, .ref q6, .ref q7, .int 0, .int 0, .int 0, .int 0, .ref q8, .int 0, .int 0, .int 0, .int 0, .int 0, .null, .null, .int 0, .null, .null, .null, .long 0, .null, .null])) :: ([(q1, .inl (cI, 4, .inl (fun _ => 0)))] ++ ([(q2, .inl (cI, 4, .inl (fun _ => 0)))] ++ ([(q3, .inl (cI, 5, .inl (fun _ => 0)))] ++ ([(q4, .inl (cI, 70, .inl (fun _ => 0)))] ++ ([(q5, .inl (cI, 4, .inl (fun _ => 0)))] ++ ([(q6, .inl (cI, 4, .inl (fun _ => 0)))] ++ ([(q7, .inl (cI, 15, .inl (fun _ => 0)))] ++ ([(q8, .inl (cI, 48, .inl (fun _ => 0)))] ++ ([(q9, .inl (cI, 490, .inl (fun _ => 0)))])))))))))) H := hP
  have hD : va_D A ((a, .inr (5, [.int 0, .int 0, .ref q1, .ref q2, .ref q3, .ref q4, .ref q5, .ref q6, .ref q7, .int 0, .int 0, .int 0, .int 0, .ref q8, .int 0, .int 0, .int 0, .int 0, .int 0, .null, .null, .int 0, .null, .null, .null, .long 0, .null, .null])) :: ([(q1, .inl (cI, 4, .inl (fun _ => 0)))] ++ ([(q2, .inl (cI, 4, .inl (fun _ => 0)))] ++ ([(q3, .inl (cI, 5, .inl (fun _ => 0)))] ++ ([(q4, .inl (cI, 70, .inl (fun _ => 0)))] ++ ([(q5, .inl (cI, 4, .inl (fun _ => 0)))] ++ ([(q6, .inl (cI, 4, .inl (fun _ => 0)))] ++ ([(q7, .inl (cI, 15, .inl (fun _ => 0)))] ++ ([(q8, .inl (cI, 48, .inl (fun _ => 0)))] ++ ([(q9, .inl (cI, 490, .inl (fun _ => 0)))])))))))))) := hD
  refine W.widen (k := 9) (n := 644) (by omega) (by omega) ?_
  refine W.eq (g2 := F0 m 69 ls [.ref q9, .ref a]) rfl ?_
  refine va_putF (D := D) (ci := 5) (v := .ref q9) (ty := (.array .int)) (C := RX7) (T := TX7) (N := 28) hx hb ht inX7 tyX7 tyX7_ok nmX7 hown hK hP hD hS 0 rfl rfl 19 (by decide) (ht _ tw_674) (fun _ h9 => h9) rfl hin rfl (by decide +kernel) rfl rfl (Nat.le_of_ble_eq_true rfl) dX7_init_69 (fun H locs hP hD hS => ?_)
  have hP : va_P D classes ((a, .inr (5, [.int 0, .int 0, .ref q1, .ref q2, .ref q3, .ref q4, .ref q5, .ref q6, .ref q7, .int 0, .int 0, .int 0, .int 0, .ref q8, .int 0, .int 0, .int 0, .int 0, .int 0, .ref q9, .null, .int 0, .null, .null, .null, .long 0, .null, .null])) :: ([(q1, .inl (cI, 4, .inl (fun _ => 0)))] ++ ([(q2, .inl (cI, 4, .inl (fun _ => 0)))] ++ ([(q3, .inl (cI, 5, .inl (fun _ => 0)))] ++ ([(q4, .inl (cI, 70, .inl (fun _ => 0)))] ++ ([(q5, .inl (cI, 4, .inl (fun _ => 0)))] ++ ([(q6, .inl (cI, 4, .inl (fun _ => 0)))] ++ ([(q7, .inl (cI, 15, .inl (fun _ => 0)))] ++ ([(q8, .inl (cI, 48, .inl (fun _ => 0)))] ++ ([(q9, .inl (cI, 490, .inl (fun _ => 0)))])))))))))) H := hP
  have hD : va_D A ((a, .inr (5, [.int 0, .int 0, .ref q1, .ref q2, .ref q3, .ref q4, .ref q5, .ref q6, .ref q7, .int 0, .int 0, .int 0, .int 0, .ref q8, .int 0, .int 0, .int 0, .int 0, .int 0, .ref q9, .null, .int 0, .null, .null, .null, .long 0, .null, .null])) :: ([(q1, .inl (cI, 4, .inl (fun _ => 0)))] ++ ([(q2, .inl (cI, 4, .inl (fun _ => 0)))] ++ ([(q3, .inl (cI, 5, .inl (fun _ => 0)))] ++ ([(q4, .inl (cI, 70, .inl (fun _ => 0)))] ++ ([(q5, .inl (cI, 4, .inl (fun _ => 0)))] ++ ([(q6, .inl (cI, 4, .inl (fun _ => 0)))] ++ ([(q7, .inl (cI, 15, .inl (fun _ => 0)))] ++ ([(q8, .inl (cI, 48, .inl (fun _ => 0)))] ++ ([(q9, .inl (cI, 490, .inl (fun _ => 0)))])))))))))) := hD
  refine W.eq (g2 := F0 m 72 ls []) rfl ?_
  refine lv_aload_n hx hb dX7_init_72 rfl (lv_at hl 0 rfl) ?_
  refine lv_bipush (v := (20 : Int32)) hx hb dX7_init_73 (by decide) ?_
  refine va_newI (N' := 20) hx hb (ht _ tw_83) hK hP hD hS hA (by decide) rfl (by decide) (Nat.le_of_ble_eq_true rfl) (Nat.le_of_ble_eq_true rfl) dX7_init_75 (fun q10 H hP hD hS => ?_)
  simp only [List.append_assoc, List.cons_append, List.nil_append] at hP hD
  have hP : va_P D classes ((a, .inr (5, [.int 0, .int 0, .ref q1, .ref q2, .ref q3, .ref q4, .ref q5, .ref q6, .ref q7, .int 0, .int 0, .int 0, .int 0, .ref q8, .int 0, .int 0, .int 0, .int 0, .int 0, .ref q9, .null, .int 0, .null, .null, .null, .long 0, .null, .null])) :: ([(q1, .inl (cI, 4, .inl (fun _ => 0)))] ++ ([(q2, .inl (cI, 4, .inl (fun _ => 0)))] ++ ([(q3, .inl (cI, 5, .inl (fun _ => 0)))] ++ ([(q4, .inl (cI, 70, .inl (fun _ => 0)))] ++ ([(q5, .inl (cI, 4, .inl (fun _ => 0)))] ++ ([(q6, .inl (cI, 4, .inl (fun _ => 0)))] ++ ([(q7, .inl (cI, 15, .inl (fun _ => 0)))] ++ ([(q8, .inl (cI, 48, .inl (fun _ => 0)))] ++ ([(q9, .inl (cI, 490, .inl (fun _ => 0)))] ++ ([(q10, .inl (cI, 20, .inl (fun _ => 0)))]))))))))))) H := hP
  have hD : va_D A ((a, .inr (5, [.int 0, .int 0, .ref q1, .ref q2, .ref q3, .ref q4, .ref q5, .ref q6, .ref q7, .int 0, .int 0, .int 0, .int 0, .ref q8, .int 0, .int 0, .int 0, .int 0, .int 0, .ref q9, .null, .int 0, .null, .null, .null, .long 0, .null, .null])) :: ([(q1, .inl (cI, 4, .inl (fun _ => 0)))] ++ ([(q2, .inl (cI, 4, .inl (fun _ => 0)))] ++ ([(q3, .inl (cI, 5, .inl (fun _ => 0)))] ++ ([(q4, .inl (cI, 70, .inl (fun _ => 0)))] ++ ([(q5, .inl (cI, 4, .inl (fun _ => 0)))] ++ ([(q6, .inl (cI, 4, .inl (fun _ => 0)))] ++ ([(q7, .inl (cI, 15, .inl (fun _ => 0)))] ++ ([(q8, .inl (cI, 48, .inl (fun _ => 0)))] ++ ([(q9, .inl (cI, 490, .inl (fun _ => 0)))] ++ ([(q10, .inl (cI, 20, .inl (fun _ => 0)))]))))))))))) := hD
  refine W.widen (k := 10) (n := 664) (by omega) (by omega) ?_
  refine W.eq (g2 := F0 m 77 ls [.ref q10, .ref a]) rfl ?_
  refine va_putF (D := D) (ci := 5) (v := .ref q10) (ty := (.array .int)) (C := RX7) (T := TX7) (N := 28) hx hb ht inX7 tyX7 tyX7_ok nmX7 hown hK hP hD hS 0 rfl rfl 20 (by decide) (ht _ tw_675) (fun _ h9 => h9) rfl hin rfl (by decide +kernel) rfl rfl (Nat.le_of_ble_eq_true rfl) dX7_init_77 (fun H locs hP hD hS => ?_)
  have hP : va_P D classes ((a, .inr (5, [.int 0, .int 0, .ref q1, .ref q2, .ref q3, .ref q4, .ref q5, .ref q6, .ref q7, .int 0, .int 0, .int 0, .int 0, .ref q8, .int 0, .int 0, .int 0, .int 0, .int 0, .ref q9, .ref q10, .int 0, .null, .null, .null, .long 0, .null, .null])) :: ([(q1, .inl (cI, 4, .inl (fun _ => 0)))] ++ ([(q2, .inl (cI, 4, .inl (fun _ => 0)))] ++ ([(q3, .inl (cI, 5, .inl (fun _ => 0)))] ++ ([(q4, .inl (cI, 70, .inl (fun _ => 0)))] ++ ([(q5, .inl (cI, 4, .inl (fun _ => 0)))] ++ ([(q6, .inl (cI, 4, .inl (fun _ => 0)))] ++ ([(q7, .inl (cI, 15, .inl (fun _ => 0)))] ++ ([(q8, .inl (cI, 48, .inl (fun _ => 0)))] ++ ([(q9, .inl (cI, 490, .inl (fun _ => 0)))] ++ ([(q10, .inl (cI, 20, .inl (fun _ => 0)))]))))))))))) H := hP
  have hD : va_D A ((a, .inr (5, [.int 0, .int 0, .ref q1, .ref q2, .ref q3, .ref q4, .ref q5, .ref q6, .ref q7, .int 0, .int 0, .int 0, .int 0, .ref q8, .int 0, .int 0, .int 0, .int 0, .int 0, .ref q9, .ref q10, .int 0, .null, .null, .null, .long 0, .null, .null])) :: ([(q1, .inl (cI, 4, .inl (fun _ => 0)))] ++ ([(q2, .inl (cI, 4, .inl (fun _ => 0)))] ++ ([(q3, .inl (cI, 5, .inl (fun _ => 0)))] ++ ([(q4, .inl (cI, 70, .inl (fun _ => 0)))] ++ ([(q5, .inl (cI, 4, .inl (fun _ => 0)))] ++ ([(q6, .inl (cI, 4, .inl (fun _ => 0)))] ++ ([(q7, .inl (cI, 15, .inl (fun _ => 0)))] ++ ([(q8, .inl (cI, 48, .inl (fun _ => 0)))] ++ ([(q9, .inl (cI, 490, .inl (fun _ => 0)))] ++ ([(q10, .inl (cI, 20, .inl (fun _ => 0)))]))))))))))) := hD
  refine W.eq (g2 := F0 m 80 ls []) rfl ?_
  refine lv_aload_n hx hb dX7_init_80 rfl (lv_at hl 0 rfl) ?_
  refine lv_bipush (v := (6 : Int32)) hx hb dX7_init_81 (by decide) ?_
  refine va_newI (N' := 6) hx hb (ht _ tw_83) hK hP hD hS hA (by decide) rfl (by decide) (Nat.le_of_ble_eq_true rfl) (Nat.le_of_ble_eq_true rfl) dX7_init_83 (fun q11 H hP hD hS => ?_)
  simp only [List.append_assoc, List.cons_append, List.nil_append] at hP hD
  have hP : va_P D classes ((a, .inr (5, [.int 0, .int 0, .ref q1, .ref q2, .ref q3, .ref q4, .ref q5, .ref q6, .ref q7, .int 0, .int 0, .int 0, .int 0, .ref q8, .int 0, .int 0, .int 0, .int 0, .int 0, .ref q9, .ref q10, .int 0, .null, .null, .null, .long 0, .null, .null])) :: ([(q1, .inl (cI, 4, .inl (fun _ => 0)))] ++ ([(q2, .inl (cI, 4, .inl (fun _ => 0)))] ++ ([(q3, .inl (cI, 5, .inl (fun _ => 0)))] ++ ([(q4, .inl (cI, 70, .inl (fun _ => 0)))] ++ ([(q5, .inl (cI, 4, .inl (fun _ => 0)))] ++ ([(q6, .inl (cI, 4, .inl (fun _ => 0)))] ++ ([(q7, .inl (cI, 15, .inl (fun _ => 0)))] ++ ([(q8, .inl (cI, 48, .inl (fun _ => 0)))] ++ ([(q9, .inl (cI, 490, .inl (fun _ => 0)))] ++ ([(q10, .inl (cI, 20, .inl (fun _ => 0)))] ++ ([(q11, .inl (cI, 6, .inl (fun _ => 0)))])))))))))))) H := hP
  have hD : va_D A ((a, .inr (5, [.int 0, .int 0, .ref q1, .ref q2, .ref q3, .ref q4, .ref q5, .ref q6, .ref q7, .int 0, .int 0, .int 0, .int 0, .ref q8, .int 0, .int 0, .int 0, .int 0, .int 0, .ref q9, .ref q10, .int 0, .null, .null, .null, .long 0, .null, .null])) :: ([(q1, .inl (cI, 4, .inl (fun _ => 0)))] ++ ([(q2, .inl (cI, 4, .inl (fun _ => 0)))] ++ ([(q3, .inl (cI, 5, .inl (fun _ => 0)))] ++ ([(q4, .inl (cI, 70, .inl (fun _ => 0)))] ++ ([(q5, .inl (cI, 4, .inl (fun _ => 0)))] ++ ([(q6, .inl (cI, 4, .inl (fun _ => 0)))] ++ ([(q7, .inl (cI, 15, .inl (fun _ => 0)))] ++ ([(q8, .inl (cI, 48, .inl (fun _ => 0)))] ++ ([(q9, .inl (cI, 490, .inl (fun _ => 0)))] ++ ([(q10, .inl (cI, 20, .inl (fun _ => 0)))] ++ ([(q11, .inl (cI, 6, .inl (fun _ => 0)))])))))))))))) := hD
  refine W.widen (k := 11) (n := 670) (by omega) (by omega) ?_
  refine W.eq (g2 := F0 m 85 ls [.ref q11, .ref a]) rfl ?_
  refine va_putF (D := D) (ci := 5) (v := .ref q11) (ty := (.array .int)) (C := RX7) (T := TX7) (N := 28) hx hb ht inX7 tyX7 tyX7_ok nmX7 hown hK hP hD hS 0 rfl rfl 22 (by decide) (ht _ tw_677) (fun _ h9 => h9) rfl hin rfl (by decide +kernel) rfl rfl (Nat.le_of_ble_eq_true rfl) dX7_init_85 (fun H locs hP hD hS => ?_)
  have hP : va_P D classes ((a, .inr (5, [.int 0, .int 0, .ref q1, .ref q2, .ref q3, .ref q4, .ref q5, .ref q6, .ref q7, .int 0, .int 0, .int 0, .int 0, .ref q8, .int 0, .int 0, .int 0, .int 0, .int 0, .ref q9, .ref q10, .int 0, .ref q11, .null, .null, .long 0, .null, .null])) :: ([(q1, .inl (cI, 4, .inl (fun _ => 0)))] ++ ([(q2, .inl (cI, 4, .inl (fun _ => 0)))] ++ ([(q3, .inl (cI, 5, .inl (fun _ => 0)))] ++ ([(q4, .inl (cI, 70, .inl (fun _ => 0)))] ++ ([(q5, .inl (cI, 4, .inl (fun _ => 0)))] ++ ([(q6, .inl (cI, 4, .inl (fun _ => 0)))] ++ ([(q7, .inl (cI, 15, .inl (fun _ => 0)))] ++ ([(q8, .inl (cI, 48, .inl (fun _ => 0)))] ++ ([(q9, .inl (cI, 490, .inl (fun _ => 0)))] ++ ([(q10, .inl (cI, 20, .inl (fun _ => 0)))] ++ ([(q11, .inl (cI, 6, .inl (fun _ => 0)))])))))))))))) H := hP
  have hD : va_D A ((a, .inr (5, [.int 0, .int 0, .ref q1, .ref q2, .ref q3, .ref q4, .ref q5, .ref q6, .ref q7, .int 0, .int 0, .int 0, .int 0, .ref q8, .int 0, .int 0, .int 0, .int 0, .int 0, .ref q9, .ref q10, .int 0, .ref q11, .null, .null, .long 0, .null, .null])) :: ([(q1, .inl (cI, 4, .inl (fun _ => 0)))] ++ ([(q2, .inl (cI, 4, .inl (fun _ => 0)))] ++ ([(q3, .inl (cI, 5, .inl (fun _ => 0)))] ++ ([(q4, .inl (cI, 70, .inl (fun _ => 0)))] ++ ([(q5, .inl (cI, 4, .inl (fun _ => 0)))] ++ ([(q6, .inl (cI, 4, .inl (fun _ => 0)))] ++ ([(q7, .inl (cI, 15, .inl (fun _ => 0)))] ++ ([(q8, .inl (cI, 48, .inl (fun _ => 0)))] ++ ([(q9, .inl (cI, 490, .inl (fun _ => 0)))] ++ ([(q10, .inl (cI, 20, .inl (fun _ => 0)))] ++ ([(q11, .inl (cI, 6, .inl (fun _ => 0)))])))))))))))) := hD
  refine W.eq (g2 := F0 m 88 ls []) rfl ?_
  refine lv_aload_n hx hb dX7_init_88 rfl (lv_at hl 0 rfl) ?_
  refine lv_bipush (v := (6 : Int32)) hx hb dX7_init_89 (by decide) ?_
  refine va_newI (N' := 6) hx hb (ht _ tw_83) hK hP hD hS hA (by decide) rfl (by decide) (Nat.le_of_ble_eq_true rfl) (Nat.le_of_ble_eq_true rfl) dX7_init_91 (fun q12 H hP hD hS => ?_)
  simp only [List.append_assoc, List.cons_append, List.nil_append] at hP hD
  have hP : va_P D classes ((a, .inr (5, [.int 0, .int 0, .ref q1, .ref q2, .ref q3, .ref q4, .ref q5, .ref q6, .ref q7, .int 0, .int 0, .int 0, .int 0, .ref q8, .int 0, .int 0, .int 0, .int 0, .int 0, .ref q9, .ref q10, .int 0, .ref q11, .null, .null, .long 0, .null, .null])) :: ([(q1, .inl (cI, 4, .inl (fun _ => 0)))] ++ ([(q2, .inl (cI, 4, .inl (fun _ => 0)))] ++ ([(q3, .inl (cI, 5, .inl (fun _ => 0)))] ++ ([(q4, .inl (cI, 70, .inl (fun _ => 0)))] ++ ([(q5, .inl (cI, 4, .inl (fun _ => 0)))] ++ ([(q6, .inl (cI, 4, .inl (fun _ => 0)))] ++ ([(q7, .inl (cI, 15, .inl (fun _ => 0)))] ++ ([(q8, .inl (cI, 48, .inl (fun _ => 0)))] ++ ([(q9, .inl (cI, 490, .inl (fun _ => 0)))] ++ ([(q10, .inl (cI, 20, .inl (fun _ => 0)))] ++ ([(q11, .inl (cI, 6, .inl (fun _ => 0)))] ++ ([(q12, .inl (cI, 6, .inl (fun _ => 0)))]))))))))))))) H := hP
  have hD : va_D A ((a, .inr (5, [.int 0, .int 0, .ref q1, .ref q2, .ref q3, .ref q4, .ref q5, .ref q6, .ref q7, .int 0, .int 0, .int 0, .int 0, .ref q8, .int 0, .int 0, .int 0, .int 0, .int 0, .ref q9, .ref q10, .int 0, .ref q11, .null, .null, .long 0, .null, .null])) :: ([(q1, .inl (cI, 4, .inl (fun _ => 0)))] ++ ([(q2, .inl (cI, 4, .inl (fun _ => 0)))] ++ ([(q3, .inl (cI, 5, .inl (fun _ => 0)))] ++ ([(q4, .inl (cI, 70, .inl (fun _ => 0)))] ++ ([(q5, .inl (cI, 4, .inl (fun _ => 0)))] ++ ([(q6, .inl (cI, 4, .inl (fun _ => 0)))] ++ ([(q7, .inl (cI, 15, .inl (fun _ => 0)))] ++ ([(q8, .inl (cI, 48, .inl (fun _ => 0)))] ++ ([(q9, .inl (cI, 490, .inl (fun _ => 0)))] ++ ([(q10, .inl (cI, 20, .inl (fun _ => 0)))] ++ ([(q11, .inl (cI, 6, .inl (fun _ => 0)))] ++ ([(q12, .inl (cI, 6, .inl (fun _ => 0)))]))))))))))))) := hD
  refine W.widen (k := 12) (n := 676) (by omega) (by omega) ?_
  refine W.eq (g2 := F0 m 93 ls [.ref q12, .ref a]) rfl ?_
  refine va_putF (D := D) (ci := 5) (v := .ref q12) (ty := (.array .int)) (C := RX7) (T := TX7) (N := 28) hx hb ht inX7 tyX7 tyX7_ok nmX7 hown hK hP hD hS 0 rfl rfl 23 (by decide) (ht _ tw_678) (fun _ h9 => h9) rfl hin rfl (by decide +kernel) rfl rfl (Nat.le_of_ble_eq_true rfl) dX7_init_93 (fun H locs hP hD hS => ?_)
  have hP : va_P D classes ((a, .inr (5, [.int 0, .int 0, .ref q1, .ref q2, .ref q3, .ref q4, .ref q5, .ref q6, .ref q7, .int 0, .int 0, .int 0, .int 0, .ref q8, .int 0, .int 0, .int 0, .int 0, .int 0, .ref q9, .ref q10, .int 0, .ref q11, .ref q12, .null, .long 0, .null, .null])) :: ([(q1, .inl (cI, 4, .inl (fun _ => 0)))] ++ ([(q2, .inl (cI, 4, .inl (fun _ => 0)))] ++ ([(q3, .inl (cI, 5, .inl (fun _ => 0)))] ++ ([(q4, .inl (cI, 70, .inl (fun _ => 0)))] ++ ([(q5, .inl (cI, 4, .inl (fun _ => 0)))] ++ ([(q6, .inl (cI, 4, .inl (fun _ => 0)))] ++ ([(q7, .inl (cI, 15, .inl (fun _ => 0)))] ++ ([(q8, .inl (cI, 48, .inl (fun _ => 0)))] ++ ([(q9, .inl (cI, 490, .inl (fun _ => 0)))] ++ ([(q10, .inl (cI, 20, .inl (fun _ => 0)))] ++ ([(q11, .inl (cI, 6, .inl (fun _ => 0)))] ++ ([(q12, .inl (cI, 6, .inl (fun _ => 0)))]))))))))))))) H := hP
  have hD : va_D A ((a, .inr (5, [.int 0, .int 0, .ref q1, .ref q2, .ref q3, .ref q4, .ref q5, .ref q6, .ref q7, .int 0, .int 0, .int 0, .int 0, .ref q8, .int 0, .int 0, .int 0, .int 0, .int 0, .ref q9, .ref q10, .int 0, .ref q11, .ref q12, .null, .long 0, .null, .null])) :: ([(q1, .inl (cI, 4, .inl (fun _ => 0)))] ++ ([(q2, .inl (cI, 4, .inl (fun _ => 0)))] ++ ([(q3, .inl (cI, 5, .inl (fun _ => 0)))] ++ ([(q4, .inl (cI, 70, .inl (fun _ => 0)))] ++ ([(q5, .inl (cI, 4, .inl (fun _ => 0)))] ++ ([(q6, .inl (cI, 4, .inl (fun _ => 0)))] ++ ([(q7, .inl (cI, 15, .inl (fun _ => 0)))] ++ ([(q8, .inl (cI, 48, .inl (fun _ => 0)))] ++ ([(q9, .inl (cI, 490, .inl (fun _ => 0)))] ++ ([(q10, .inl (cI, 20, .inl (fun _ => 0)))] ++ ([(q11, .inl (cI, 6, .inl (fun _ => 0)))] ++ ([(q12, .inl (cI, 6, .inl (fun _ => 0)))]))))))))))))) := hD
  refine W.eq (g2 := F0 m 96 ls []) rfl ?_
  refine lv_aload_n hx hb dX7_init_96 rfl (lv_at hl 0 rfl) ?_
  refine lv_bipush (v := (6 : Int32)) hx hb dX7_init_97 (by decide) ?_
  refine va_newI (N' := 6) hx hb (ht _ tw_83) hK hP hD hS hA (by decide) rfl (by decide) (Nat.le_of_ble_eq_true rfl) (Nat.le_of_ble_eq_true rfl) dX7_init_99 (fun q13 H hP hD hS => ?_)
  simp only [List.append_assoc, List.cons_append, List.nil_append] at hP hD
  have hP : va_P D classes ((a, .inr (5, [.int 0, .int 0, .ref q1, .ref q2, .ref q3, .ref q4, .ref q5, .ref q6, .ref q7, .int 0, .int 0, .int 0, .int 0, .ref q8, .int 0, .int 0, .int 0, .int 0, .int 0, .ref q9, .ref q10, .int 0, .ref q11, .ref q12, .null, .long 0, .null, .null])) :: ([(q1, .inl (cI, 4, .inl (fun _ => 0)))] ++ ([(q2, .inl (cI, 4, .inl (fun _ => 0)))] ++ ([(q3, .inl (cI, 5, .inl (fun _ => 0)))] ++ ([(q4, .inl (cI, 70, .inl (fun _ => 0)))] ++ ([(q5, .inl (cI, 4, .inl (fun _ => 0)))] ++ ([(q6, .inl (cI, 4, .inl (fun _ => 0)))] ++ ([(q7, .inl (cI, 15, .inl (fun _ => 0)))] ++ ([(q8, .inl (cI, 48, .inl (fun _ => 0)))] ++ ([(q9, .inl (cI, 490, .inl (fun _ => 0)))] ++ ([(q10, .inl (cI, 20, .inl (fun _ => 0)))] ++ ([(q11, .inl (cI, 6, .inl (fun _ => 0)))] ++ ([(q12, .inl (cI, 6, .inl (fun _ => 0)))] ++ ([(q13, .inl (cI, 6, .inl (fun _ => 0)))])))))))))))))) H := hP
  have hD : va_D A ((a, .inr (5, [.int 0, .int 0, .ref q1, .ref q2, .ref q3, .ref q4, .ref q5, .ref q6, .ref q7, .int 0, .int 0, .int 0, .int 0, .ref q8, .int 0, .int 0, .int 0, .int 0, .int 0, .ref q9, .ref q10, .int 0, .ref q11, .ref q12, .null, .long 0, .null, .null])) :: ([(q1, .inl (cI, 4, .inl (fun _ => 0)))] ++ ([(q2, .inl (cI, 4, .inl (fun _ => 0)))] ++ ([(q3, .inl (cI, 5, .inl (fun _ => 0)))] ++ ([(q4, .inl (cI, 70, .inl (fun _ => 0)))] ++ ([(q5, .inl (cI, 4, .inl (fun _ => 0)))] ++ ([(q6, .inl (cI, 4, .inl (fun _ => 0)))] ++ ([(q7, .inl (cI, 15, .inl (fun _ => 0)))] ++ ([(q8, .inl (cI, 48, .inl (fun _ => 0)))] ++ ([(q9, .inl (cI, 490, .inl (fun _ => 0)))] ++ ([(q10, .inl (cI, 20, .inl (fun _ => 0)))] ++ ([(q11, .inl (cI, 6, .inl (fun _ => 0)))] ++ ([(q12, .inl (cI, 6, .inl (fun _ => 0)))] ++ ([(q13, .inl (cI, 6, .inl (fun _ => 0)))])))))))))))))) := hD
  refine W.widen (k := 13) (n := 682) (by omega) (by omega) ?_
  refine W.eq (g2 := F0 m 101 ls [.ref q13, .ref a]) rfl ?_
  refine va_putF (D := D) (ci := 5) (v := .ref q13) (ty := (.array .int)) (C := RX7) (T := TX7) (N := 28) hx hb ht inX7 tyX7 tyX7_ok nmX7 hown hK hP hD hS 0 rfl rfl 24 (by decide) (ht _ tw_679) (fun _ h9 => h9) rfl hin rfl (by decide +kernel) rfl rfl (Nat.le_of_ble_eq_true rfl) dX7_init_101 (fun H locs hP hD hS => ?_)
  have hP : va_P D classes ((a, .inr (5, [.int 0, .int 0, .ref q1, .ref q2, .ref q3, .ref q4, .ref q5, .ref q6, .ref q7, .int 0, .int 0, .int 0, .int 0, .ref q8, .int 0, .int 0, .int 0, .int 0, .int 0, .ref q9, .ref q10, .int 0, .ref q11, .ref q12, .ref q13, .long 0, .null, .null])) :: ([(q1, .inl (cI, 4, .inl (fun _ => 0)))] ++ ([(q2, .inl (cI, 4, .inl (fun _ => 0)))] ++ ([(q3, .inl (cI, 5, .inl (fun _ => 0)))] ++ ([(q4, .inl (cI, 70, .inl (fun _ => 0)))] ++ ([(q5, .inl (cI, 4, .inl (fun _ => 0)))] ++ ([(q6, .inl (cI, 4, .inl (fun _ => 0)))] ++ ([(q7, .inl (cI, 15, .inl (fun _ => 0)))] ++ ([(q8, .inl (cI, 48, .inl (fun _ => 0)))] ++ ([(q9, .inl (cI, 490, .inl (fun _ => 0)))] ++ ([(q10, .inl (cI, 20, .inl (fun _ => 0)))] ++ ([(q11, .inl (cI, 6, .inl (fun _ => 0)))] ++ ([(q12, .inl (cI, 6, .inl (fun _ => 0)))] ++ ([(q13, .inl (cI, 6, .inl (fun _ => 0)))])))))))))))))) H := hP
  have hD : va_D A ((a, .inr (5, [.int 0, .int 0, .ref q1, .ref q2, .ref q3, .ref q4, .ref q5, .ref q6, .ref q7, .int 0, .int 0, .int 0, .int 0, .ref q8, .int 0, .int 0, .int 0, .int 0, .int 0, .ref q9, .ref q10, .int 0, .ref q11, .ref q12, .ref q13, .long 0, .null, .null])) :: ([(q1, .inl (cI, 4, .inl (fun _ => 0)))] ++ ([(q2, .inl (cI, 4, .inl (fun _ => 0)))] ++ ([(q3, .inl (cI, 5, .inl (fun _ => 0)))] ++ ([(q4, .inl (cI, 70, .inl (fun _ => 0)))] ++ ([(q5, .inl (cI, 4, .inl (fun _ => 0)))] ++ ([(q6, .inl (cI, 4, .inl (fun _ => 0)))] ++ ([(q7, .inl (cI, 15, .inl (fun _ => 0)))] ++ ([(q8, .inl (cI, 48, .inl (fun _ => 0)))] ++ ([(q9, .inl (cI, 490, .inl (fun _ => 0)))] ++ ([(q10, .inl (cI, 20, .inl (fun _ => 0)))] ++ ([(q11, .inl (cI, 6, .inl (fun _ => 0)))] ++ ([(q12, .inl (cI, 6, .inl (fun _ => 0)))] ++ ([(q13, .inl (cI, 6, .inl (fun _ => 0)))])))))))))))))) := hD
  refine W.eq (g2 := F0 m 104 ls []) rfl ?_
  refine lv_aload_n hx hb dX7_init_104 rfl (lv_at hl 0 rfl) ?_
  refine lv_iconst (v := (2 : Int32)) hx hb dX7_init_105 (by decide) ?_
  refine va_newZ (N' := 2) hx hb (ht _ tw_152) hK hP hD hS hA (by decide) rfl (by decide) (Nat.le_of_ble_eq_true rfl) (Nat.le_of_ble_eq_true rfl) dX7_init_106 (fun q14 H hP hD hS => ?_)
  simp only [List.append_assoc, List.cons_append, List.nil_append] at hP hD
  have hP : va_P D classes ((a, .inr (5, [.int 0, .int 0, .ref q1, .ref q2, .ref q3, .ref q4, .ref q5, .ref q6, .ref q7, .int 0, .int 0, .int 0, .int 0, .ref q8, .int 0, .int 0, .int 0, .int 0, .int 0, .ref q9, .ref q10, .int 0, .ref q11, .ref q12, .ref q13, .long 0, .null, .null])) :: ([(q1, .inl (cI, 4, .inl (fun _ => 0)))] ++ ([(q2, .inl (cI, 4, .inl (fun _ => 0)))] ++ ([(q3, .inl (cI, 5, .inl (fun _ => 0)))] ++ ([(q4, .inl (cI, 70, .inl (fun _ => 0)))] ++ ([(q5, .inl (cI, 4, .inl (fun _ => 0)))] ++ ([(q6, .inl (cI, 4, .inl (fun _ => 0)))] ++ ([(q7, .inl (cI, 15, .inl (fun _ => 0)))] ++ ([(q8, .inl (cI, 48, .inl (fun _ => 0)))] ++ ([(q9, .inl (cI, 490, .inl (fun _ => 0)))] ++ ([(q10, .inl (cI, 20, .inl (fun _ => 0)))] ++ ([(q11, .inl (cI, 6, .inl (fun _ => 0)))] ++ ([(q12, .inl (cI, 6, .inl (fun _ => 0)))] ++ ([(q13, .inl (cI, 6, .inl (fun _ => 0)))] ++ ([(q14, .inl (cZ, 2, .inl (fun _ => 0)))]))))))))))))))) H := hP
  have hD : va_D A ((a, .inr (5, [.int 0, .int 0, .ref q1, .ref q2, .ref q3, .ref q4, .ref q5, .ref q6, .ref q7, .int 0, .int 0, .int 0, .int 0, .ref q8, .int 0, .int 0, .int 0, .int 0, .int 0, .ref q9, .ref q10, .int 0, .ref q11, .ref q12, .ref q13, .long 0, .null, .null])) :: ([(q1, .inl (cI, 4, .inl (fun _ => 0)))] ++ ([(q2, .inl (cI, 4, .inl (fun _ => 0)))] ++ ([(q3, .inl (cI, 5, .inl (fun _ => 0)))] ++ ([(q4, .inl (cI, 70, .inl (fun _ => 0)))] ++ ([(q5, .inl (cI, 4, .inl (fun _ => 0)))] ++ ([(q6, .inl (cI, 4, .inl (fun _ => 0)))] ++ ([(q7, .inl (cI, 15, .inl (fun _ => 0)))] ++ ([(q8, .inl (cI, 48, .inl (fun _ => 0)))] ++ ([(q9, .inl (cI, 490, .inl (fun _ => 0)))] ++ ([(q10, .inl (cI, 20, .inl (fun _ => 0)))] ++ ([(q11, .inl (cI, 6, .inl (fun _ => 0)))] ++ ([(q12, .inl (cI, 6, .inl (fun _ => 0)))] ++ ([(q13, .inl (cI, 6, .inl (fun _ => 0)))] ++ ([(q14, .inl (cZ, 2, .inl (fun _ => 0)))]))))))))))))))) := hD
  refine W.widen (k := 14) (n := 684) (by omega) (by omega) ?_
  refine W.eq (g2 := F0 m 108 ls [.ref q14, .ref a]) rfl ?_
  refine va_putF (D := D) (ci := 5) (v := .ref q14) (ty := (.array .boolean)) (C := RX7) (T := TX7) (N := 28) hx hb ht inX7 tyX7 tyX7_ok nmX7 hown hK hP hD hS 0 rfl rfl 26 (by decide) (ht _ tw_681) (fun _ h9 => h9) rfl hin rfl (by decide +kernel) rfl rfl (Nat.le_of_ble_eq_true rfl) dX7_init_108 (fun H locs hP hD hS => ?_)
  have hP : va_P D classes ((a, .inr (5, [.int 0, .int 0, .ref q1, .ref q2, .ref q3, .ref q4, .ref q5, .ref q6, .ref q7, .int 0, .int 0, .int 0, .int 0, .ref q8, .int 0, .int 0, .int 0, .int 0, .int 0, .ref q9, .ref q10, .int 0, .ref q11, .ref q12, .ref q13, .long 0, .ref q14, .null])) :: ([(q1, .inl (cI, 4, .inl (fun _ => 0)))] ++ ([(q2, .inl (cI, 4, .inl (fun _ => 0)))] ++ ([(q3, .inl (cI, 5, .inl (fun _ => 0)))] ++ ([(q4, .inl (cI, 70, .inl (fun _ => 0)))] ++ ([(q5, .inl (cI, 4, .inl (fun _ => 0)))] ++ ([(q6, .inl (cI, 4, .inl (fun _ => 0)))] ++ ([(q7, .inl (cI, 15, .inl (fun _ => 0)))] ++ ([(q8, .inl (cI, 48, .inl (fun _ => 0)))] ++ ([(q9, .inl (cI, 490, .inl (fun _ => 0)))] ++ ([(q10, .inl (cI, 20, .inl (fun _ => 0)))] ++ ([(q11, .inl (cI, 6, .inl (fun _ => 0)))] ++ ([(q12, .inl (cI, 6, .inl (fun _ => 0)))] ++ ([(q13, .inl (cI, 6, .inl (fun _ => 0)))] ++ ([(q14, .inl (cZ, 2, .inl (fun _ => 0)))]))))))))))))))) H := hP
  have hD : va_D A ((a, .inr (5, [.int 0, .int 0, .ref q1, .ref q2, .ref q3, .ref q4, .ref q5, .ref q6, .ref q7, .int 0, .int 0, .int 0, .int 0, .ref q8, .int 0, .int 0, .int 0, .int 0, .int 0, .ref q9, .ref q10, .int 0, .ref q11, .ref q12, .ref q13, .long 0, .ref q14, .null])) :: ([(q1, .inl (cI, 4, .inl (fun _ => 0)))] ++ ([(q2, .inl (cI, 4, .inl (fun _ => 0)))] ++ ([(q3, .inl (cI, 5, .inl (fun _ => 0)))] ++ ([(q4, .inl (cI, 70, .inl (fun _ => 0)))] ++ ([(q5, .inl (cI, 4, .inl (fun _ => 0)))] ++ ([(q6, .inl (cI, 4, .inl (fun _ => 0)))] ++ ([(q7, .inl (cI, 15, .inl (fun _ => 0)))] ++ ([(q8, .inl (cI, 48, .inl (fun _ => 0)))] ++ ([(q9, .inl (cI, 490, .inl (fun _ => 0)))] ++ ([(q10, .inl (cI, 20, .inl (fun _ => 0)))] ++ ([(q11, .inl (cI, 6, .inl (fun _ => 0)))] ++ ([(q12, .inl (cI, 6, .inl (fun _ => 0)))] ++ ([(q13, .inl (cI, 6, .inl (fun _ => 0)))] ++ ([(q14, .inl (cZ, 2, .inl (fun _ => 0)))]))))))))))))))) := hD
  refine W.eq (g2 := F0 m 111 ls []) rfl ?_
  refine lv_aload_n hx hb dX7_init_111 rfl (lv_at hl 0 rfl) ?_
  refine lv_bipush (v := (70 : Int32)) hx hb dX7_init_112 (by decide) ?_
  refine va_newI (N' := 70) hx hb (ht _ tw_83) hK hP hD hS hA (by decide) rfl (by decide) (Nat.le_of_ble_eq_true rfl) (Nat.le_of_ble_eq_true rfl) dX7_init_114 (fun q15 H hP hD hS => ?_)
  simp only [List.append_assoc, List.cons_append, List.nil_append] at hP hD
  have hP : va_P D classes ((a, .inr (5, [.int 0, .int 0, .ref q1, .ref q2, .ref q3, .ref q4, .ref q5, .ref q6, .ref q7, .int 0, .int 0, .int 0, .int 0, .ref q8, .int 0, .int 0, .int 0, .int 0, .int 0, .ref q9, .ref q10, .int 0, .ref q11, .ref q12, .ref q13, .long 0, .ref q14, .null])) :: ([(q1, .inl (cI, 4, .inl (fun _ => 0)))] ++ ([(q2, .inl (cI, 4, .inl (fun _ => 0)))] ++ ([(q3, .inl (cI, 5, .inl (fun _ => 0)))] ++ ([(q4, .inl (cI, 70, .inl (fun _ => 0)))] ++ ([(q5, .inl (cI, 4, .inl (fun _ => 0)))] ++ ([(q6, .inl (cI, 4, .inl (fun _ => 0)))] ++ ([(q7, .inl (cI, 15, .inl (fun _ => 0)))] ++ ([(q8, .inl (cI, 48, .inl (fun _ => 0)))] ++ ([(q9, .inl (cI, 490, .inl (fun _ => 0)))] ++ ([(q10, .inl (cI, 20, .inl (fun _ => 0)))] ++ ([(q11, .inl (cI, 6, .inl (fun _ => 0)))] ++ ([(q12, .inl (cI, 6, .inl (fun _ => 0)))] ++ ([(q13, .inl (cI, 6, .inl (fun _ => 0)))] ++ ([(q14, .inl (cZ, 2, .inl (fun _ => 0)))] ++ ([(q15, .inl (cI, 70, .inl (fun _ => 0)))])))))))))))))))) H := hP
  have hD : va_D A ((a, .inr (5, [.int 0, .int 0, .ref q1, .ref q2, .ref q3, .ref q4, .ref q5, .ref q6, .ref q7, .int 0, .int 0, .int 0, .int 0, .ref q8, .int 0, .int 0, .int 0, .int 0, .int 0, .ref q9, .ref q10, .int 0, .ref q11, .ref q12, .ref q13, .long 0, .ref q14, .null])) :: ([(q1, .inl (cI, 4, .inl (fun _ => 0)))] ++ ([(q2, .inl (cI, 4, .inl (fun _ => 0)))] ++ ([(q3, .inl (cI, 5, .inl (fun _ => 0)))] ++ ([(q4, .inl (cI, 70, .inl (fun _ => 0)))] ++ ([(q5, .inl (cI, 4, .inl (fun _ => 0)))] ++ ([(q6, .inl (cI, 4, .inl (fun _ => 0)))] ++ ([(q7, .inl (cI, 15, .inl (fun _ => 0)))] ++ ([(q8, .inl (cI, 48, .inl (fun _ => 0)))] ++ ([(q9, .inl (cI, 490, .inl (fun _ => 0)))] ++ ([(q10, .inl (cI, 20, .inl (fun _ => 0)))] ++ ([(q11, .inl (cI, 6, .inl (fun _ => 0)))] ++ ([(q12, .inl (cI, 6, .inl (fun _ => 0)))] ++ ([(q13, .inl (cI, 6, .inl (fun _ => 0)))] ++ ([(q14, .inl (cZ, 2, .inl (fun _ => 0)))] ++ ([(q15, .inl (cI, 70, .inl (fun _ => 0)))])))))))))))))))) := hD
  refine W.widen (k := 15) (n := 754) (by omega) (by omega) ?_
  refine W.eq (g2 := F0 m 116 ls [.ref q15, .ref a]) rfl ?_
  refine va_putF (D := D) (ci := 5) (v := .ref q15) (ty := (.array .int)) (C := RX7) (T := TX7) (N := 28) hx hb ht inX7 tyX7 tyX7_ok nmX7 hown hK hP hD hS 0 rfl rfl 27 (by decide) (ht _ tw_682) (fun _ h9 => h9) rfl hin rfl (by decide +kernel) rfl rfl (Nat.le_of_ble_eq_true rfl) dX7_init_116 (fun H locs hP hD hS => ?_)
  have hP : va_P D classes ((a, .inr (5, [.int 0, .int 0, .ref q1, .ref q2, .ref q3, .ref q4, .ref q5, .ref q6, .ref q7, .int 0, .int 0, .int 0, .int 0, .ref q8, .int 0, .int 0, .int 0, .int 0, .int 0, .ref q9, .ref q10, .int 0, .ref q11, .ref q12, .ref q13, .long 0, .ref q14, .ref q15])) :: ([(q1, .inl (cI, 4, .inl (fun _ => 0)))] ++ ([(q2, .inl (cI, 4, .inl (fun _ => 0)))] ++ ([(q3, .inl (cI, 5, .inl (fun _ => 0)))] ++ ([(q4, .inl (cI, 70, .inl (fun _ => 0)))] ++ ([(q5, .inl (cI, 4, .inl (fun _ => 0)))] ++ ([(q6, .inl (cI, 4, .inl (fun _ => 0)))] ++ ([(q7, .inl (cI, 15, .inl (fun _ => 0)))] ++ ([(q8, .inl (cI, 48, .inl (fun _ => 0)))] ++ ([(q9, .inl (cI, 490, .inl (fun _ => 0)))] ++ ([(q10, .inl (cI, 20, .inl (fun _ => 0)))] ++ ([(q11, .inl (cI, 6, .inl (fun _ => 0)))] ++ ([(q12, .inl (cI, 6, .inl (fun _ => 0)))] ++ ([(q13, .inl (cI, 6, .inl (fun _ => 0)))] ++ ([(q14, .inl (cZ, 2, .inl (fun _ => 0)))] ++ ([(q15, .inl (cI, 70, .inl (fun _ => 0)))])))))))))))))))) H := hP
  have hD : va_D A ((a, .inr (5, [.int 0, .int 0, .ref q1, .ref q2, .ref q3, .ref q4, .ref q5, .ref q6, .ref q7, .int 0, .int 0, .int 0, .int 0, .ref q8, .int 0, .int 0, .int 0, .int 0, .int 0, .ref q9, .ref q10, .int 0, .ref q11, .ref q12, .ref q13, .long 0, .ref q14, .ref q15])) :: ([(q1, .inl (cI, 4, .inl (fun _ => 0)))] ++ ([(q2, .inl (cI, 4, .inl (fun _ => 0)))] ++ ([(q3, .inl (cI, 5, .inl (fun _ => 0)))] ++ ([(q4, .inl (cI, 70, .inl (fun _ => 0)))] ++ ([(q5, .inl (cI, 4, .inl (fun _ => 0)))] ++ ([(q6, .inl (cI, 4, .inl (fun _ => 0)))] ++ ([(q7, .inl (cI, 15, .inl (fun _ => 0)))] ++ ([(q8, .inl (cI, 48, .inl (fun _ => 0)))] ++ ([(q9, .inl (cI, 490, .inl (fun _ => 0)))] ++ ([(q10, .inl (cI, 20, .inl (fun _ => 0)))] ++ ([(q11, .inl (cI, 6, .inl (fun _ => 0)))] ++ ([(q12, .inl (cI, 6, .inl (fun _ => 0)))] ++ ([(q13, .inl (cI, 6, .inl (fun _ => 0)))] ++ ([(q14, .inl (cZ, 2, .inl (fun _ => 0)))] ++ ([(q15, .inl (cI, 70, .inl (fun _ => 0)))])))))))))))))))) := hD
  refine W.eq (g2 := F0 m 119 ls []) rfl ?_
  obtain ⟨q0, hq⟩ : ∃ y : Nat → Nat, y = (fun k => if k = 0 then a else if k = 1 then q1 else if k = 2 then q2 else if k = 3 then q3 else if k = 4 then q4 else if k = 5 then q5 else if k = 6 then q6 else if k = 7 then q7 else if k = 8 then q8 else if k = 9 then q9 else if k = 10 then q10 else if k = 11 then q11 else if k = 12 then q12 else if k = 13 then q13 else if k = 14 then q14 else q15) := ⟨_, rfl⟩
  have hP9 : va_P D classes (wM cI cZ q0 mi) H := by rw [hq]; exact hP
  have hD9 : va_D A (wM cI cZ q0 mi) := by rw [hq]; exact hD
  have hS9 := hS
  have hl9 := hl
  clear hP hD hS hl
  have ha : a = q0 0 := by rw [hq]; rfl
  clear hq
  subst ha
  have hP := hP9
  have hD := hD9
  have hS := hS9
  have hl := hl9
  have hDk : ∀ w : CS, va_D A (wM cI cZ q0 w) := fun w => D_M hD
  have hf := mtail_spec
  obtain ⟨s0, hs0⟩ : ∃ y : CS, y = mi := ⟨_, rfl⟩
  rw [← hs0] at hP hD hf
  unfold wp_X7_init at hf
  have k_143 : ∀ (x1 : Int32) (s0 : CS) (H : Heap) (locs : List Loc) (ls : Array Slot), B_X7_init_143  x1 s0 (fun z => z = m0) → va_P D classes (wM cI cZ q0 s0) H → va_D A (wM cI cZ q0 s0) → va_S A s.heap H locs → lv_has ls 2 [(0, .ref (q0 0)), (1, .int x1)] → W p l e (headSpec (wsA yX7_init cX7_init 2 none) ({ frames := 1, cells := 15, slots := 754, locals := 12 })).room s m (#[.ref (q0 0)] : Array Value) below meth c H locs 15 754 (MQ below (va_Qv (fun u : Nat → Nat => q0 0 = u 0) (fun u t => va_P D classes (wM cI cZ u m0) t.heap ∧ va_D A (wM cI cZ u m0)) A) (#[.ref (q0 0)] : Array Value) s 15 754 A) (F0 m 143 ls []) := by
    intro x1 s0 H locs ls hf hP hD hS hl
    unfold B_X7_init_143 at hf
    obtain ⟨I_143, ⟨n0_143, hI0_143⟩, hst_143⟩ := hf
    have main_143 : ∀ (n : Nat) (x1 : Int32) (s0 : CS) (H : Heap) (locs : List Loc) (ls : Array Slot), I_143 n (x1, s0) → va_P D classes (wM cI cZ q0 s0) H → va_D A (wM cI cZ q0 s0) → va_S A s.heap H locs → lv_has ls 2 [(0, .ref (q0 0)), (1, .int x1)] → W p l e (headSpec (wsA yX7_init cX7_init 2 none) ({ frames := 1, cells := 15, slots := 754, locals := 12 })).room s m (#[.ref (q0 0)] : Array Value) below meth c H locs 15 754 (MQ below (va_Qv (fun u : Nat → Nat => q0 0 = u 0) (fun u t => va_P D classes (wM cI cZ u m0) t.heap ∧ va_D A (wM cI cZ u m0)) A) (#[.ref (q0 0)] : Array Value) s 15 754 A) (F0 m 143 ls []) := by
      intro n
      induction n using Nat.strongRecOn with
      | _ n_143 ih_143 =>
      intro x1 s0 H locs ls hI hP hD hS hl
      have hf : LB_X7_init_143 (fun z => ∃ k, k < n_143 ∧ I_143 k z)  x1 s0 (fun z => z = m0) := hst_143 n_143 (x1, s0) hI
      have hG_143 : ∀ (x1 : Int32) (s0 : CS) (H : Heap) (locs : List Loc) (ls : Array Slot), (∃ k, k < n_143 ∧ I_143 k (x1, s0)) → va_P D classes (wM cI cZ q0 s0) H → va_D A (wM cI cZ q0 s0) → va_S A s.heap H locs → lv_has ls 2 [(0, .ref (q0 0)), (1, .int x1)] → W p l e (headSpec (wsA yX7_init cX7_init 2 none) ({ frames := 1, cells := 15, slots := 754, locals := 12 })).room s m (#[.ref (q0 0)] : Array Value) below meth c H locs 15 754 (MQ below (va_Qv (fun u : Nat → Nat => q0 0 = u 0) (fun u t => va_P D classes (wM cI cZ u m0) t.heap ∧ va_D A (wM cI cZ u m0)) A) (#[.ref (q0 0)] : Array Value) s 15 754 A) (F0 m 143 ls []) := by
        rintro x1 s0 H locs ls ⟨k, hk, hI⟩ hP hD hS hl
        exact ih_143 k hk x1 s0 H locs ls hI hP hD hS hl
      unfold LB_X7_init_143 at hf
      refine lv_iload_n hx hb dX7_init_143 rfl (lv_at hl 1 rfl) ?_
      refine lv_iconst (v := (4 : Int32)) hx hb dX7_init_144 (by decide) ?_
      refine lv_icmp_ge (tgt := 162) hx hb dX7_init_145 (by decide) (fun c_1 => ?_) (fun c_1 => ?_)
      · have hf := hf.1 c_1
        exact W.vret hx hb hr (fun t ht hW => ⟨⟨q0, rfl, rfl, by rw [← hf]; exact P_heap ht hP, hDk m0⟩, hS.F ht⟩) hS.2.2 dX7_init_162
      · have hf := hf.2 c_1
        refine lv_aload_n hx hb dX7_init_148 rfl (lv_at hl 0 rfl) ?_
        refine va_get (D := D) (ci := 5) (v := .ref (q0 2)) (C := RX7) (T := TX7) (N := 28) hx hb ht inX7 hown hK hP 0 eM_0 rfl 3 (by decide) (ht _ tw_658) (fun _ h9 => h9) rfl dX7_init_149 ?_
        refine lv_iload_n hx hb dX7_init_152 rfl (lv_at hl 1 rfl) ?_
        refine lv_bipush (v := (-9 : Int32)) hx hb dX7_init_153 (by decide) ?_
        obtain ⟨hi_2, hf⟩ := hf
        refine va_iast hx hb hK hP hD hS 2 0 eM_2 rfl hi_2 dX7_init_155 (fun H locs hP hD hS => ?_)
        obtain ⟨s0_3, es0_3⟩ : ∃ y : CS, y = sA s0 3 x1.toNatClampNeg (-9 : Int32) := ⟨_, rfl⟩
        have hf := hf s0_3 es0_3
        have hD := hDk s0_3
        have hP : va_P D classes (wM cI cZ q0 s0_3) H := by rw [es0_3]; exact PM_F3 hP
        obtain ⟨x1_4, ex1_4⟩ : ∃ y : Int32, y = x1 + (1 : Int32) := ⟨_, rfl⟩
        have hf := hf x1_4 ex1_4
        refine lv_iinc (v := x1_4) (lv' := [(1, .int x1_4), (0, .ref (q0 0))]) hx hb dX7_init_156 hl (k := 1) rfl (by rw [ex1_4]; rfl) (by decide) rfl (fun ls hl => ?_)
        refine lv_goto (tgt := 143) hx hb dX7_init_159 (by decide) ?_
        exact hG_143 x1_4 s0_3 H locs ls hf hP hD hS (lv_sub hl [1, 0] rfl)
    exact main_143 n0_143 x1 s0 H locs ls hI0_143 hP hD hS hl
  have k_121 : ∀ (x1 : Int32) (s0 : CS) (H : Heap) (locs : List Loc) (ls : Array Slot), B_X7_init_121  x1 s0 (fun z => z = m0) → va_P D classes (wM cI cZ q0 s0) H → va_D A (wM cI cZ q0 s0) → va_S A s.heap H locs → lv_has ls 2 [(0, .ref (q0 0)), (1, .int x1)] → W p l e (headSpec (wsA yX7_init cX7_init 2 none) ({ frames := 1, cells := 15, slots := 754, locals := 12 })).room s m (#[.ref (q0 0)] : Array Value) below meth c H locs 15 754 (MQ below (va_Qv (fun u : Nat → Nat => q0 0 = u 0) (fun u t => va_P D classes (wM cI cZ u m0) t.heap ∧ va_D A (wM cI cZ u m0)) A) (#[.ref (q0 0)] : Array Value) s 15 754 A) (F0 m 121 ls []) := by
    intro x1 s0 H locs ls hf hP hD hS hl
    unfold B_X7_init_121 at hf
    obtain ⟨I_121, ⟨n0_121, hI0_121⟩, hst_121⟩ := hf
    have main_121 : ∀ (n : Nat) (x1 : Int32) (s0 : CS) (H : Heap) (locs : List Loc) (ls : Array Slot), I_121 n (x1, s0) → va_P D classes (wM cI cZ q0 s0) H → va_D A (wM cI cZ q0 s0) → va_S A s.heap H locs → lv_has ls 2 [(0, .ref (q0 0)), (1, .int x1)] → W p l e (headSpec (wsA yX7_init cX7_init 2 none) ({ frames := 1, cells := 15, slots := 754, locals := 12 })).room s m (#[.ref (q0 0)] : Array Value) below meth c H locs 15 754 (MQ below (va_Qv (fun u : Nat → Nat => q0 0 = u 0) (fun u t => va_P D classes (wM cI cZ u m0) t.heap ∧ va_D A (wM cI cZ u m0)) A) (#[.ref (q0 0)] : Array Value) s 15 754 A) (F0 m 121 ls []) := by
      intro n
      induction n using Nat.strongRecOn with
      | _ n_121 ih_121 =>
      intro x1 s0 H locs ls hI hP hD hS hl
      have hf : LB_X7_init_121 (fun z => ∃ k, k < n_121 ∧ I_121 k z)  x1 s0 (fun z => z = m0) := hst_121 n_121 (x1, s0) hI
      have hG_121 : ∀ (x1 : Int32) (s0 : CS) (H : Heap) (locs : List Loc) (ls : Array Slot), (∃ k, k < n_121 ∧ I_121 k (x1, s0)) → va_P D classes (wM cI cZ q0 s0) H → va_D A (wM cI cZ q0 s0) → va_S A s.heap H locs → lv_has ls 2 [(0, .ref (q0 0)), (1, .int x1)] → W p l e (headSpec (wsA yX7_init cX7_init 2 none) ({ frames := 1, cells := 15, slots := 754, locals := 12 })).room s m (#[.ref (q0 0)] : Array Value) below meth c H locs 15 754 (MQ below (va_Qv (fun u : Nat → Nat => q0 0 = u 0) (fun u t => va_P D classes (wM cI cZ u m0) t.heap ∧ va_D A (wM cI cZ u m0)) A) (#[.ref (q0 0)] : Array Value) s 15 754 A) (F0 m 121 ls []) := by
        rintro x1 s0 H locs ls ⟨k, hk, hI⟩ hP hD hS hl
        exact ih_121 k hk x1 s0 H locs ls hI hP hD hS hl
      unfold LB_X7_init_121 at hf
      refine lv_iload_n hx hb dX7_init_121 rfl (lv_at hl 1 rfl) ?_
      refine lv_bipush (v := (20 : Int32)) hx hb dX7_init_122 (by decide) ?_
      refine lv_icmp_ge (tgt := 141) hx hb dX7_init_124 (by decide) (fun c_5 => ?_) (fun c_5 => ?_)
      · have hf := hf.1 c_5
        refine lv_iconst (v := (0 : Int32)) hx hb dX7_init_141 (by decide) ?_
        refine lv_istore_n (lv' := [(1, .int (0 : Int32)), (0, .ref (q0 0))]) hx hb dX7_init_142 rfl hl (by decide) rfl (fun ls hl => ?_)
        exact k_143 (0 : Int32) s0 H locs ls hf hP hD hS (lv_sub hl [1, 0] rfl)
      · have hf := hf.2 c_5
        refine lv_aload_n hx hb dX7_init_127 rfl (lv_at hl 0 rfl) ?_
        refine va_get (D := D) (ci := 5) (v := .ref (q0 4)) (C := RX7) (T := TX7) (N := 28) hx hb ht inX7 hown hK hP 0 eM_0 rfl 5 (by decide) (ht _ tw_660) (fun _ h9 => h9) rfl dX7_init_128 ?_
        refine lv_iload_n hx hb dX7_init_131 rfl (lv_at hl 1 rfl) ?_
        refine lv_bipush (v := (7 : Int32)) hx hb dX7_init_132 (by decide) ?_
        obtain ⟨hi_6, hf⟩ := hf
        refine va_iast hx hb hK hP hD hS 4 0 eM_4 rfl hi_6 dX7_init_134 (fun H locs hP hD hS => ?_)
        obtain ⟨s0_7, es0_7⟩ : ∃ y : CS, y = sA s0 5 x1.toNatClampNeg (7 : Int32) := ⟨_, rfl⟩
        have hf := hf s0_7 es0_7
        have hD := hDk s0_7
        have hP : va_P D classes (wM cI cZ q0 s0_7) H := by rw [es0_7]; exact PM_F5 hP
        obtain ⟨x1_8, ex1_8⟩ : ∃ y : Int32, y = x1 + (1 : Int32) := ⟨_, rfl⟩
        have hf := hf x1_8 ex1_8
        refine lv_iinc (v := x1_8) (lv' := [(1, .int x1_8), (0, .ref (q0 0))]) hx hb dX7_init_135 hl (k := 1) rfl (by rw [ex1_8]; rfl) (by decide) rfl (fun ls hl => ?_)
        refine lv_goto (tgt := 121) hx hb dX7_init_138 (by decide) ?_
        exact hG_121 x1_8 s0_7 H locs ls hf hP hD hS (lv_sub hl [1, 0] rfl)
    exact main_121 n0_121 x1 s0 H locs ls hI0_121 hP hD hS hl
  have start : ∀ (H : Heap) (locs : List Loc), va_P D classes (wM cI cZ q0 s0) H → va_D A (wM cI cZ q0 s0) → va_S A s.heap H locs → W p l e (headSpec (wsA yX7_init cX7_init 2 none) ({ frames := 1, cells := 15, slots := 754, locals := 12 })).room s m (#[.ref (q0 0)] : Array Value) below meth c H locs 15 754 (MQ below (va_Qv (fun u : Nat → Nat => q0 0 = u 0) (fun u t => va_P D classes (wM cI cZ u m0) t.heap ∧ va_D A (wM cI cZ u m0)) A) (#[.ref (q0 0)] : Array Value) s 15 754 A) (F0 m 119 ls []) := by
    intro H locs hP hD hS
    refine lv_iconst (v := (0 : Int32)) hx hb dX7_init_119 (by decide) ?_
    refine lv_istore_n (lv' := [(1, .int (0 : Int32)), (0, .ref (q0 0))]) hx hb dX7_init_120 rfl hl (by decide) rfl (fun ls hl => ?_)
    exact k_121 (0 : Int32) s0 H locs ls hf hP hD hS (lv_sub hl [1, 0] rfl)
  exact start H locs hP hD hS
