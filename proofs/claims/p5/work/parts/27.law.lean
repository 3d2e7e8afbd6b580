set_option maxHeartbeats 40000000 in
set_option maxRecDepth 100000 in
theorem law_run {p : Program} {e : Env} {s : State} {m : MethodId} {below : List Frame} {meth : Method} {c : Code} (l : Launch) {b L : Nat} {xs : Nat → Int32} (D : va_G) (cI cZ cW : ClassId) (Y : Nat → Nat → Nat) (q9 : Nat → Nat) (Z : Nat → Nat → Nat) (S : Nat → CS) (a : AS) (s9 : CS) (aF : Nat) (fF : FA) (C0 : lw_At p s m meth c b L xs) (hK : va_K D classes (tyl cI cZ cW) s) (hf : wp_L_law L xs Y fF Z S a s9 ()) (H : Heap) (locs : List Loc) (ls : Array Slot) (A : Nat → Prop) (hAe : A = fun q => s.heap.size ≤ q) (hT0 : va_T .int aF 5 (fun j => .int (fF j)) A s s.heap) (hZ0 : va_Z "LetHoles" "FACTORIALS" "[I" (.ref aF) A s s.heap)  (hP : va_P D classes ((XW cI cZ cW Z Y (Z 1 0) (Z 2 0) S a) ++ wM cI cZ q9 s9) H) (hD : va_D A ((XW cI cZ cW Z Y (Z 1 0) (Z 2 0) S a) ++ wM cI cZ q9 s9)) (hS : va_S A s.heap H locs) (hl : lv_has ls 4 [(2, .ref (q9 0)), (1, .ref (Z 0 0)), (0, .ref b)]) : W p l e room_1 s m #[Value.ref b] below meth c H locs 133 1443 (lw_Z below #[Value.ref b] s) (F0 m 16 ls []) := by
  obtain ⟨hx, hb, hr, hml, hown, hts, hX, hbl, hlocks, hgv⟩ := id C0
  have ht : ∀ w ∈ lw_g, w.before _ s = true := fun w h => hts w (List.mem_filter.mp h).1
  have hA : ∀ q : Nat, s.heap.size ≤ q → A q := fun q h => by rw [hAe]; exact h
  have hbA : ¬ A b := by rw [hAe]; exact Nat.not_le.mpr hbl
  unfold wp_L_law at hf
  have k_18 : ∀ (x3 : Int32) (Z : Nat → Nat → Nat) (S : Nat → CS) (a : AS) (s9 : CS) (H : Heap) (locs : List Loc) (ls : Array Slot), B_L_law_18 L xs Y fF x3 Z S a s9 () → va_P D classes ((XW cI cZ cW Z Y (Z 1 0) (Z 2 0) S a) ++ wM cI cZ q9 s9) H → va_D A ((XW cI cZ cW Z Y (Z 1 0) (Z 2 0) S a) ++ wM cI cZ q9 s9) → va_S A s.heap H locs → lv_has ls 4 [(0, .ref b), (1, .ref (Z 0 0)), (2, .ref (q9 0)), (3, .int x3)] → W p l e room_1 s m #[Value.ref b] below meth c H locs 133 1443 (lw_Z below #[Value.ref b] s) (F0 m 18 ls []) := by
    intro x3 Z S a s9 H locs ls hf hP hD hS hl
    unfold B_L_law_18 at hf
    obtain ⟨I_18, ⟨n0_18, hI0_18⟩, hst_18⟩ := hf
    have main_18 : ∀ (n : Nat) (x3 : Int32) (Z : Nat → Nat → Nat) (S : Nat → CS) (a : AS) (s9 : CS) (H : Heap) (locs : List Loc) (ls : Array Slot), I_18 n (x3, Z, S, a, s9) → va_P D classes ((XW cI cZ cW Z Y (Z 1 0) (Z 2 0) S a) ++ wM cI cZ q9 s9) H → va_D A ((XW cI cZ cW Z Y (Z 1 0) (Z 2 0) S a) ++ wM cI cZ q9 s9) → va_S A s.heap H locs → lv_has ls 4 [(0, .ref b), (1, .ref (Z 0 0)), (2, .ref (q9 0)), (3, .int x3)] → W p l e room_1 s m #[Value.ref b] below meth c H locs 133 1443 (lw_Z below #[Value.ref b] s) (F0 m 18 ls []) := by
      intro n
      induction n using Nat.strongRecOn with
      | _ n_18 ih_18 =>
      intro x3 Z S a s9 H locs ls hI hP hD hS hl
      have hf : LB_L_law_18 (fun z => ∃ k, k < n_18 ∧ I_18 k z) L xs Y fF x3 Z S a s9 () := hst_18 n_18 (x3, Z, S, a, s9) hI
      have hG_18 : ∀ (x3 : Int32) (Z : Nat → Nat → Nat) (S : Nat → CS) (a : AS) (s9 : CS) (H : Heap) (locs : List Loc) (ls : Array Slot), (∃ k, k < n_18 ∧ I_18 k (x3, Z, S, a, s9)) → va_P D classes ((XW cI cZ cW Z Y (Z 1 0) (Z 2 0) S a) ++ wM cI cZ q9 s9) H → va_D A ((XW cI cZ cW Z Y (Z 1 0) (Z 2 0) S a) ++ wM cI cZ q9 s9) → va_S A s.heap H locs → lv_has ls 4 [(0, .ref b), (1, .ref (Z 0 0)), (2, .ref (q9 0)), (3, .int x3)] → W p l e room_1 s m #[Value.ref b] below meth c H locs 133 1443 (lw_Z below #[Value.ref b] s) (F0 m 18 ls []) := by
        rintro x3 Z S a s9 H locs ls ⟨k, hk, hI⟩ hP hD hS hl
        exact ih_18 k hk x3 Z S a s9 H locs ls hI hP hD hS hl
      unfold LB_L_law_18 at hf
      have k_1073 : ∀ (x3 : Int32) (Z : Nat → Nat → Nat) (S : Nat → CS) (a : AS) (s9 : CS) (H : Heap) (locs : List Loc) (ls : Array Slot), B_L_law_1073 (fun z => ∃ k, k < n_18 ∧ I_18 k z) L xs Y fF x3 Z S a s9 () → va_P D classes ((XW cI cZ cW Z Y (Z 1 0) (Z 2 0) S a) ++ wM cI cZ q9 s9) H → va_D A ((XW cI cZ cW Z Y (Z 1 0) (Z 2 0) S a) ++ wM cI cZ q9 s9) → va_S A s.heap H locs → lv_has ls 4 [(0, .ref b), (1, .ref (Z 0 0)), (2, .ref (q9 0)), (3, .int x3)] → W p l e room_1 s m #[Value.ref b] below meth c H locs 133 1443 (lw_Z below #[Value.ref b] s) (F0 m 1073 ls []) := by
        intro x3 Z S a s9 H locs ls hf hP hD hS hl
        unfold B_L_law_1073 at hf
        obtain ⟨x3_1, ex3_1⟩ : ∃ y : Int32, y = x3 + (5 : Int32) := ⟨_, rfl⟩
        have hf := hf x3_1 ex3_1
        refine lv_iinc (v := x3_1) (lv' := [(3, .int x3_1), (0, .ref b), (1, .ref (Z 0 0)), (2, .ref (q9 0))]) hx hb dL_law_1073 hl (k := 3) rfl (by rw [ex3_1]; rfl) (by decide) rfl (fun ls hl => ?_)
        refine lv_goto (tgt := 18) hx hb dL_law_1076 (by decide) ?_
        exact hG_18 x3_1 Z S a s9 H locs ls hf hP hD hS (lv_sub hl [1, 2, 3, 0] rfl)
      have k_809 : ∀ (x3 : Int32) (t0 : Int32) (t1 : Int32) (Z : Nat → Nat → Nat) (S : Nat → CS) (a : AS) (s9 : CS) (H : Heap) (locs : List Loc) (ls : Array Slot), B_L_law_809 (fun z => ∃ k, k < n_18 ∧ I_18 k z) L xs Y fF x3 t0 t1 Z S a s9 () → va_P D classes ((XW cI cZ cW Z Y (Z 1 0) (Z 2 0) S a) ++ wM cI cZ q9 s9) H → va_D A ((XW cI cZ cW Z Y (Z 1 0) (Z 2 0) S a) ++ wM cI cZ q9 s9) → va_S A s.heap H locs → lv_has ls 4 [(0, .ref b), (1, .ref (Z 0 0)), (2, .ref (q9 0)), (3, .int x3)] → W p l e room_1 s m #[Value.ref b] below meth c H locs 133 1443 (lw_Z below #[Value.ref b] s) (F0 m 809 ls [.int t0, .int t1, .ref (q9 0)]) := by
        intro x3 t0 t1 Z S a s9 H locs ls hf hP hD hS hl
        unfold B_L_law_809 at hf
        have hPc : va_P D classes (wM cI cZ q9 s9) H := P_suf hP
        refine vp_callSi (W.runV (As := [.int t1, .int t0]) (rest := []) ⟨hx, hb, hml, hown, hts⟩ (c_X7_share l D cI cZ cW q9 t1 t0 s9 _ hf) ⟨callB_of 2 hts (gT tw_974) rfl rfl rfl (ht _ tw_7) (ht _ tw_971) hd_X7_share ⟨Nat.le_of_ble_eq_true rfl, Nat.le_of_ble_eq_true rfl⟩, ht _ tw_972, ht _ tw_973⟩ ⟨PR_blind, va_recv hK hPc (ci := 5) (q0 := 0) rfl eM_0, fun U hU hW => PR_mk hPc hK hU hW⟩ rfl rfl hl.1 rfl (lv_room (Nat.le_of_ble_eq_true rfl)) dL_law_809 ⟨Nat.le_of_ble_eq_true rfl, Nat.le_of_ble_eq_true rfl⟩) (fun r_2 hf => ?_)
        refine lv_pop hx hb dL_law_812 rfl ?_
        refine lv_goto (tgt := 1073) hx hb dL_law_813 (by decide) ?_
        exact k_1073 x3 Z S a s9 H locs ls hf hP hD hS (lv_sub hl [0, 1, 2, 3] rfl)
      have k_786 : ∀ (x3 : Int32) (t0 : Int32) (t1 : Int32) (Z : Nat → Nat → Nat) (S : Nat → CS) (a : AS) (s9 : CS) (H : Heap) (locs : List Loc) (ls : Array Slot), B_L_law_786 (fun z => ∃ k, k < n_18 ∧ I_18 k z) L xs Y fF x3 t0 t1 Z S a s9 () → va_P D classes ((XW cI cZ cW Z Y (Z 1 0) (Z 2 0) S a) ++ wM cI cZ q9 s9) H → va_D A ((XW cI cZ cW Z Y (Z 1 0) (Z 2 0) S a) ++ wM cI cZ q9 s9) → va_S A s.heap H locs → lv_has ls 4 [(0, .ref b), (1, .ref (Z 0 0)), (2, .ref (q9 0)), (3, .int x3)] → W p l e room_1 s m #[Value.ref b] below meth c H locs 133 1443 (lw_Z below #[Value.ref b] s) (F0 m 786 ls [.int t0, .int t1, .ref (Z 0 0)]) := by
        intro x3 t0 t1 Z S a s9 H locs ls hf hP hD hS hl
        unfold B_L_law_786 at hf
        have hPc : va_P D classes (XW cI cZ cW Z Y (Z 1 0) (Z 2 0) S a) H := P_pre hP
        have hTc := (va_T.kept hT0 hS.2.1).narrow (B := fun _ => False) (fun q h => h.elim)
        have hZc := (va_Z.kept hZ0 hS.2.1).narrow (B := fun _ => False) (fun q h => h.elim)
        refine vp_callSi (W.runV (As := [.int t1, .int t0]) (rest := []) ⟨hx, hb, hml, hown, hts⟩ (c_X6_share l D cI cZ cW Z Y aF t1 t0 fF S a _ hf) ⟨callB_of 2 hts (gT tw_571) rfl rfl rfl (ht _ tw_1) (ht _ tw_568) hd_X6_share ⟨Nat.le_of_ble_eq_true rfl, Nat.le_of_ble_eq_true rfl⟩, ht _ tw_569, ht _ tw_570⟩ ⟨PRF_blind, va_recv hK hPc (ci := 4) (q0 := 0) rfl eX_0, fun U hU hW => PRF_mk hPc hK hTc hZc hU hW⟩ rfl rfl hl.1 rfl (lv_room (Nat.le_of_ble_eq_true rfl)) dL_law_786 ⟨Nat.le_of_ble_eq_true rfl, Nat.le_of_ble_eq_true rfl⟩) (fun r_3 hf => ?_)
        refine lv_pop hx hb dL_law_789 rfl ?_
        refine lv_aload_n hx hb dL_law_790 rfl (lv_at hl 2 rfl) ?_
        refine lv_aload_n hx hb dL_law_791 rfl (lv_at hl 0 rfl) ?_
        refine lv_iload_n hx hb dL_law_792 rfl (lv_at hl 3 rfl) ?_
        refine lv_iconst (v := (1 : Int32)) hx hb dL_law_793 (by decide) ?_
        refine lv_iadd hx hb dL_law_794 ?_
        obtain ⟨hi_4, hf⟩ := hf
        refine va_sld hx hb hX hbl hbA hS hi_4 dL_law_795 ?_
        refine lv_aload_n hx hb dL_law_796 rfl (lv_at hl 0 rfl) ?_
        refine lv_iload_n hx hb dL_law_797 rfl (lv_at hl 3 rfl) ?_
        refine lv_iconst (v := (2 : Int32)) hx hb dL_law_798 (by decide) ?_
        refine lv_iadd hx hb dL_law_799 ?_
        obtain ⟨hi_5, hf⟩ := hf
        refine va_sld hx hb hX hbl hbA hS hi_5 dL_law_800 ?_
        refine lv_if_eq (tgt := 808) hx hb dL_law_801 (by decide) (fun c_6 => ?_) (fun c_6 => ?_)
        · have hf := hf.1 c_6
          refine lv_iconst (v := (0 : Int32)) hx hb dL_law_808 (by decide) ?_
          exact k_809 x3 (0 : Int32) (xs (x3 + (1 : Int32)).toNatClampNeg) Z S a s9 H locs ls hf hP hD hS (lv_sub hl [0, 1, 2, 3] rfl)
        · have hf := hf.2 c_6
          refine lv_iconst (v := (1 : Int32)) hx hb dL_law_804 (by decide) ?_
          refine lv_goto (tgt := 809) hx hb dL_law_805 (by decide) ?_
          exact k_809 x3 (1 : Int32) (xs (x3 + (1 : Int32)).toNatClampNeg) Z S a s9 H locs ls hf hP hD hS (lv_sub hl [0, 1, 2, 3] rfl)
      have k_921 : ∀ (x3 : Int32) (t0 : Int32) (t1 : Int32) (t2 : Int32) (t3 : Int32) (Z : Nat → Nat → Nat) (S : Nat → CS) (a : AS) (s9 : CS) (H : Heap) (locs : List Loc) (ls : Array Slot), B_L_law_921 (fun z => ∃ k, k < n_18 ∧ I_18 k z) L xs Y fF x3 t0 t1 t2 t3 Z S a s9 () → va_P D classes ((XW cI cZ cW Z Y (Z 1 0) (Z 2 0) S a) ++ wM cI cZ q9 s9) H → va_D A ((XW cI cZ cW Z Y (Z 1 0) (Z 2 0) S a) ++ wM cI cZ q9 s9) → va_S A s.heap H locs → lv_has ls 4 [(0, .ref b), (1, .ref (Z 0 0)), (2, .ref (q9 0)), (3, .int x3)] → W p l e room_1 s m #[Value.ref b] below meth c H locs 133 1443 (lw_Z below #[Value.ref b] s) (F0 m 921 ls [.int t0, .int t1, .int t2, .int t3, .ref (q9 0)]) := by
        intro x3 t0 t1 t2 t3 Z S a s9 H locs ls hf hP hD hS hl
        unfold B_L_law_921 at hf
        have hPc : va_P D classes (wM cI cZ q9 s9) H := P_suf hP
        refine vp_callSi (W.runV (As := [.int t3, .int t2, .int t1, .int t0]) (rest := []) ⟨hx, hb, hml, hown, hts⟩ (c_X7_passes l D cI cZ cW q9 t3 t2 t1 t0 s9 _ hf) ⟨callB_of 4 hts (gT tw_1000) rfl rfl rfl (ht _ tw_7) (ht _ tw_997) hd_X7_passes ⟨Nat.le_of_ble_eq_true rfl, Nat.le_of_ble_eq_true rfl⟩, ht _ tw_998, ht _ tw_999⟩ ⟨PR_blind, va_recv hK hPc (ci := 5) (q0 := 0) rfl eM_0, fun U hU hW => PR_mk hPc hK hU hW⟩ rfl rfl hl.1 rfl (lv_room (Nat.le_of_ble_eq_true rfl)) dL_law_921 ⟨Nat.le_of_ble_eq_true rfl, Nat.le_of_ble_eq_true rfl⟩) (fun r_7 hf => ?_)
        refine lv_pop hx hb dL_law_924 rfl ?_
        refine lv_goto (tgt := 1073) hx hb dL_law_925 (by decide) ?_
        exact k_1073 x3 Z S a s9 H locs ls hf hP hD hS (lv_sub hl [0, 1, 2, 3] rfl)
      have k_888 : ∀ (x3 : Int32) (t0 : Int32) (t1 : Int32) (t2 : Int32) (t3 : Int32) (Z : Nat → Nat → Nat) (S : Nat → CS) (a : AS) (s9 : CS) (H : Heap) (locs : List Loc) (ls : Array Slot), B_L_law_888 (fun z => ∃ k, k < n_18 ∧ I_18 k z) L xs Y fF x3 t0 t1 t2 t3 Z S a s9 () → va_P D classes ((XW cI cZ cW Z Y (Z 1 0) (Z 2 0) S a) ++ wM cI cZ q9 s9) H → va_D A ((XW cI cZ cW Z Y (Z 1 0) (Z 2 0) S a) ++ wM cI cZ q9 s9) → va_S A s.heap H locs → lv_has ls 4 [(0, .ref b), (1, .ref (Z 0 0)), (2, .ref (q9 0)), (3, .int x3)] → W p l e room_1 s m #[Value.ref b] below meth c H locs 133 1443 (lw_Z below #[Value.ref b] s) (F0 m 888 ls [.int t0, .int t1, .int t2, .int t3, .ref (Z 0 0)]) := by
        intro x3 t0 t1 t2 t3 Z S a s9 H locs ls hf hP hD hS hl
        unfold B_L_law_888 at hf
        have hPc : va_P D classes (XW cI cZ cW Z Y (Z 1 0) (Z 2 0) S a) H := P_pre hP
        refine vp_callSi (W.runV (As := [.int t3, .int t2, .int t1, .int t0]) (rest := []) ⟨hx, hb, hml, hown, hts⟩ (c_X6_passes l D cI cZ cW Z Y t3 t2 t1 t0 S a _ hf) ⟨callB_of 4 hts (gT tw_614) rfl rfl rfl (ht _ tw_1) (ht _ tw_611) hd_X6_passes ⟨Nat.le_of_ble_eq_true rfl, Nat.le_of_ble_eq_true rfl⟩, ht _ tw_612, ht _ tw_613⟩ ⟨PR_blind, va_recv hK hPc (ci := 4) (q0 := 0) rfl eX_0, fun U hU hW => PR_mk hPc hK hU hW⟩ rfl rfl hl.1 rfl (lv_room (Nat.le_of_ble_eq_true rfl)) dL_law_888 ⟨Nat.le_of_ble_eq_true rfl, Nat.le_of_ble_eq_true rfl⟩) (fun r_8 hf => ?_)
        refine lv_pop hx hb dL_law_891 rfl ?_
        refine lv_aload_n hx hb dL_law_892 rfl (lv_at hl 2 rfl) ?_
        refine lv_aload_n hx hb dL_law_893 rfl (lv_at hl 0 rfl) ?_
        refine lv_iload_n hx hb dL_law_894 rfl (lv_at hl 3 rfl) ?_
        refine lv_iconst (v := (1 : Int32)) hx hb dL_law_895 (by decide) ?_
        refine lv_iadd hx hb dL_law_896 ?_
        obtain ⟨hi_9, hf⟩ := hf
        refine va_sld hx hb hX hbl hbA hS hi_9 dL_law_897 ?_
        refine lv_aload_n hx hb dL_law_898 rfl (lv_at hl 0 rfl) ?_
        refine lv_iload_n hx hb dL_law_899 rfl (lv_at hl 3 rfl) ?_
        refine lv_iconst (v := (2 : Int32)) hx hb dL_law_900 (by decide) ?_
        refine lv_iadd hx hb dL_law_901 ?_
        obtain ⟨hi_10, hf⟩ := hf
        refine va_sld hx hb hX hbl hbA hS hi_10 dL_law_902 ?_
        refine lv_aload_n hx hb dL_law_903 rfl (lv_at hl 0 rfl) ?_
        refine lv_iload_n hx hb dL_law_904 rfl (lv_at hl 3 rfl) ?_
        refine lv_iconst (v := (3 : Int32)) hx hb dL_law_905 (by decide) ?_
        refine lv_iadd hx hb dL_law_906 ?_
        obtain ⟨hi_11, hf⟩ := hf
        refine va_sld hx hb hX hbl hbA hS hi_11 dL_law_907 ?_
        refine lv_aload_n hx hb dL_law_908 rfl (lv_at hl 0 rfl) ?_
        refine lv_iload_n hx hb dL_law_909 rfl (lv_at hl 3 rfl) ?_
        refine lv_iconst (v := (4 : Int32)) hx hb dL_law_910 (by decide) ?_
        refine lv_iadd hx hb dL_law_911 ?_
        obtain ⟨hi_12, hf⟩ := hf
        refine va_sld hx hb hX hbl hbA hS hi_12 dL_law_912 ?_
        refine lv_if_eq (tgt := 920) hx hb dL_law_913 (by decide) (fun c_13 => ?_) (fun c_13 => ?_)
        · have hf := hf.1 c_13
          refine lv_iconst (v := (0 : Int32)) hx hb dL_law_920 (by decide) ?_
          exact k_921 x3 (0 : Int32) (xs (x3 + (3 : Int32)).toNatClampNeg) (xs (x3 + (2 : Int32)).toNatClampNeg) (xs (x3 + (1 : Int32)).toNatClampNeg) Z S a s9 H locs ls hf hP hD hS (lv_sub hl [0, 1, 2, 3] rfl)
        · have hf := hf.2 c_13
          refine lv_iconst (v := (1 : Int32)) hx hb dL_law_916 (by decide) ?_
          refine lv_goto (tgt := 921) hx hb dL_law_917 (by decide) ?_
          exact k_921 x3 (1 : Int32) (xs (x3 + (3 : Int32)).toNatClampNeg) (xs (x3 + (2 : Int32)).toNatClampNeg) (xs (x3 + (1 : Int32)).toNatClampNeg) Z S a s9 H locs ls hf hP hD hS (lv_sub hl [0, 1, 2, 3] rfl)
      refine lv_iload_n hx hb dL_law_18 rfl (lv_at hl 3 rfl) ?_
      refine lv_aload_n hx hb dL_law_19 rfl (lv_at hl 0 rfl) ?_
      refine va_slen hx hb hX hbl hbA hS dL_law_20 ?_
      refine lv_iconst (v := (5 : Int32)) hx hb dL_law_21 (by decide) ?_
      refine lv_isub hx hb dL_law_22 ?_
      refine lv_icmp_gt (tgt := 1079) hx hb dL_law_23 (by decide) (fun c_14 => ?_) (fun c_14 => ?_)
      · have hf := hf.1 c_14
        refine lv_iconst (v := (1 : Int32)) hx hb dL_law_1079 (by decide) ?_
        refine va_forget (fun q h => by have h2 := hS.2.2 q h; rw [hAe] at h2; exact h2) ?_
        refine W.widen (k := 600000) (n := 7302250) (by decide) (by decide) ?_
        exact lw_ret hx hb hr hlocks dL_law_1080
      · have hf := hf.2 c_14
        refine lv_aload_n hx hb dL_law_26 rfl (lv_at hl 0 rfl) ?_
        refine lv_iload_n hx hb dL_law_27 rfl (lv_at hl 3 rfl) ?_
        obtain ⟨hi_15, hf⟩ := hf
        refine va_sld hx hb hX hbl hbA hS hi_15 dL_law_28 ?_
        refine lv_bipush (v := (31 : Int32)) hx hb dL_law_29 (by decide) ?_
        refine lv_iand hx hb dL_law_31 ?_
        by_cases c_16 : ((xs x3.toNatClampNeg) &&& (31 : Int32)) = (0 : Int32)
        · have hf := hf.1 c_16
          refine lv_tableIn (off := 132) (tgt := 164) hx hb dL_law_32 (by rw [c_16]; decide) (by rw [c_16]; decide) (by rw [c_16]; first | done | rfl) (by decide) ?_
          refine lv_aload_n hx hb dL_law_164 rfl (lv_at hl 1 rfl) ?_
          refine lv_aload_n hx hb dL_law_165 rfl (lv_at hl 0 rfl) ?_
          refine lv_iload_n hx hb dL_law_166 rfl (lv_at hl 3 rfl) ?_
          refine lv_iconst (v := (1 : Int32)) hx hb dL_law_167 (by decide) ?_
          refine lv_iadd hx hb dL_law_168 ?_
          obtain ⟨hi_17, hf⟩ := hf
          refine va_sld hx hb hX hbl hbA hS hi_17 dL_law_169 ?_
          have hPc : va_P D classes (XW cI cZ cW Z Y (Z 1 0) (Z 2 0) S a) H := P_pre hP
          have hDc : va_D A (XW cI cZ cW Z Y (Z 1 0) (Z 2 0) S a) := D_pre hD
          have hFc := va_freeX hDc hS hA
          refine va_calli (va_runV (As := [.int (xs (x3 + (1 : Int32)).toNatClampNeg)]) (rest := []) ⟨hx, hb, hml, hown, hts⟩ (c_X6_write l D cI cZ cW Z Y H.size (xs (x3 + (1 : Int32)).toNatClampNeg) S a _ hf) ⟨callB_of 1 hts (gT tw_193) rfl rfl rfl (ht _ tw_1) (ht _ tw_190) hd_X6_write ⟨Nat.le_of_ble_eq_true rfl, Nat.le_of_ble_eq_true rfl⟩, ht _ tw_191, ht _ tw_192⟩ ⟨PW_blind, va_recv hK hPc (ci := 4) (q0 := 0) rfl eX_0, fun U hU hW => PW_mk hPc hDc hK hU hW⟩ rfl rfl hl.1 rfl (lv_room (Nat.le_of_ble_eq_true rfl)) dL_law_170 ⟨Nat.le_of_ble_eq_true rfl, Nat.le_of_ble_eq_true rfl⟩) hS (fun q _ h => hFc q h) hFc (fun r_18 u t H1 locs ht1 hvm hf hB hz1 hk1 hS => ?_)
          obtain ⟨S_19, a_20⟩ := u
          dsimp only at hf hB
          rw [ht1] at hB
          have hP := cjP hP hD hk1 hB
          have hD : va_D A ((XW cI cZ cW Z Y (Z 1 0) (Z 2 0) S_19 a_20) ++ wM cI cZ q9 s9) := D_L hD
          generalize H1 = H at hP hS ⊢
          refine W.eq (g2 := F0 m 173 ls [.int r_18]) rfl ?_
          refine lv_pop hx hb dL_law_173 rfl ?_
          refine lv_aload_n hx hb dL_law_174 rfl (lv_at hl 2 rfl) ?_
          refine lv_aload_n hx hb dL_law_175 rfl (lv_at hl 0 rfl) ?_
          refine lv_iload_n hx hb dL_law_176 rfl (lv_at hl 3 rfl) ?_
          refine lv_iconst (v := (1 : Int32)) hx hb dL_law_177 (by decide) ?_
          refine lv_iadd hx hb dL_law_178 ?_
          obtain ⟨hi_21, hf⟩ := hf
          refine va_sld hx hb hX hbl hbA hS hi_21 dL_law_179 ?_
          have hPc : va_P D classes (wM cI cZ q9 s9) H := P_suf hP
          have hDc : va_D A (wM cI cZ q9 s9) := D_suf hD
          have hFc := va_freeX hDc hS hA
          refine va_calli (va_runV (As := [.int (xs (x3 + (1 : Int32)).toNatClampNeg)]) (rest := []) ⟨hx, hb, hml, hown, hts⟩ (c_X7_write l D cI cZ cW q9 H.size (xs (x3 + (1 : Int32)).toNatClampNeg) s9 _ hf) ⟨callB_of 1 hts (gT tw_743) rfl rfl rfl (ht _ tw_7) (ht _ tw_740) hd_X7_write ⟨Nat.le_of_ble_eq_true rfl, Nat.le_of_ble_eq_true rfl⟩, ht _ tw_741, ht _ tw_742⟩ ⟨PW_blind, va_recv hK hPc (ci := 5) (q0 := 0) rfl eM_0, fun U hU hW => PW_mk hPc hDc hK hU hW⟩ rfl rfl hl.1 rfl (lv_room (Nat.le_of_ble_eq_true rfl)) dL_law_180 ⟨Nat.le_of_ble_eq_true rfl, Nat.le_of_ble_eq_true rfl⟩) hS (fun q _ h => hFc q h) hFc (fun r_22 u t H1 locs ht1 hvm hf hB hz1 hk1 hS => ?_)
          obtain ⟨s9_23, rfl⟩ : ∃ z, z = u := ⟨_, rfl⟩
          rw [ht1] at hB
          have hP := cjT hP hD hk1 hB
          have hD : va_D A ((XW cI cZ cW Z Y (Z 1 0) (Z 2 0) S_19 a_20) ++ wM cI cZ q9 s9_23) := D_L hD
          generalize H1 = H at hP hS ⊢
          refine W.eq (g2 := F0 m 183 ls [.int r_22]) rfl ?_
          refine lv_pop hx hb dL_law_183 rfl ?_
          refine lv_goto (tgt := 1073) hx hb dL_law_184 (by decide) ?_
          exact k_1073 x3 Z S_19 a_20 s9_23 H locs ls hf hP hD hS (lv_sub hl [0, 1, 2, 3] rfl)
        · have hf := hf.2 c_16
          by_cases c_24 : ((xs x3.toNatClampNeg) &&& (31 : Int32)) = (1 : Int32)
          · have hf := hf.1 c_24
            refine lv_tableIn (off := 155) (tgt := 187) hx hb dL_law_32 (by rw [c_24]; decide) (by rw [c_24]; decide) (by rw [c_24]; first | done | rfl) (by decide) ?_
            refine lv_aload_n hx hb dL_law_187 rfl (lv_at hl 1 rfl) ?_
            have hPc : va_P D classes (XW cI cZ cW Z Y (Z 1 0) (Z 2 0) S a) H := P_pre hP
            have hDc : va_D A (XW cI cZ cW Z Y (Z 1 0) (Z 2 0) S a) := D_pre hD
            have hFc := va_freeX hDc hS hA
            refine va_calli (va_runV (As := []) (rest := []) ⟨hx, hb, hml, hown, hts⟩ (c_X6_wipe l D cI cZ cW Z Y H.size S a _ hf) ⟨callB_of 0 hts (gT tw_197) rfl rfl rfl (ht _ tw_1) (ht _ tw_194) hd_X6_wipe ⟨Nat.le_of_ble_eq_true rfl, Nat.le_of_ble_eq_true rfl⟩, ht _ tw_195, ht _ tw_196⟩ ⟨PW_blind, va_recv hK hPc (ci := 4) (q0 := 0) rfl eX_0, fun U hU hW => PW_mk hPc hDc hK hU hW⟩ rfl rfl hl.1 rfl (lv_room (Nat.le_of_ble_eq_true rfl)) dL_law_188 ⟨Nat.le_of_ble_eq_true rfl, Nat.le_of_ble_eq_true rfl⟩) hS (fun q _ h => hFc q h) hFc (fun r_25 u t H1 locs ht1 hvm hf hB hz1 hk1 hS => ?_)
            obtain ⟨S_26, a_27⟩ := u
            dsimp only at hf hB
            rw [ht1] at hB
            have hP := cjP hP hD hk1 hB
            have hD : va_D A ((XW cI cZ cW Z Y (Z 1 0) (Z 2 0) S_26 a_27) ++ wM cI cZ q9 s9) := D_L hD
            generalize H1 = H at hP hS ⊢
            refine W.eq (g2 := F0 m 191 ls [.int r_25]) rfl ?_
            refine lv_pop hx hb dL_law_191 rfl ?_
            refine lv_aload_n hx hb dL_law_192 rfl (lv_at hl 2 rfl) ?_
            have hPc : va_P D classes (wM cI cZ q9 s9) H := P_suf hP
            have hDc : va_D A (wM cI cZ q9 s9) := D_suf hD
            have hFc := va_freeX hDc hS hA
            refine va_calli (va_runV (As := []) (rest := []) ⟨hx, hb, hml, hown, hts⟩ (c_X7_wipe l D cI cZ cW q9 H.size s9 _ hf) ⟨callB_of 0 hts (gT tw_751) rfl rfl rfl (ht _ tw_7) (ht _ tw_748) hd_X7_wipe ⟨Nat.le_of_ble_eq_true rfl, Nat.le_of_ble_eq_true rfl⟩, ht _ tw_749, ht _ tw_750⟩ ⟨PW_blind, va_recv hK hPc (ci := 5) (q0 := 0) rfl eM_0, fun U hU hW => PW_mk hPc hDc hK hU hW⟩ rfl rfl hl.1 rfl (lv_room (Nat.le_of_ble_eq_true rfl)) dL_law_193 ⟨Nat.le_of_ble_eq_true rfl, Nat.le_of_ble_eq_true rfl⟩) hS (fun q _ h => hFc q h) hFc (fun r_28 u t H1 locs ht1 hvm hf hB hz1 hk1 hS => ?_)
            obtain ⟨s9_29, rfl⟩ : ∃ z, z = u := ⟨_, rfl⟩
            rw [ht1] at hB
            have hP := cjT hP hD hk1 hB
            have hD : va_D A ((XW cI cZ cW Z Y (Z 1 0) (Z 2 0) S_26 a_27) ++ wM cI cZ q9 s9_29) := D_L hD
            generalize H1 = H at hP hS ⊢
            refine W.eq (g2 := F0 m 196 ls [.int r_28]) rfl ?_
            refine lv_pop hx hb dL_law_196 rfl ?_
            refine lv_goto (tgt := 1073) hx hb dL_law_197 (by decide) ?_
            exact k_1073 x3 Z S_26 a_27 s9_29 H locs ls hf hP hD hS (lv_sub hl [0, 1, 2, 3] rfl)
          · have hf := hf.2 c_24
            by_cases c_30 : ((xs x3.toNatClampNeg) &&& (31 : Int32)) = (2 : Int32)
            · have hf := hf.1 c_30
              refine lv_tableIn (off := 168) (tgt := 200) hx hb dL_law_32 (by rw [c_30]; decide) (by rw [c_30]; decide) (by rw [c_30]; first | done | rfl) (by decide) ?_
              refine lv_aload_n hx hb dL_law_200 rfl (lv_at hl 1 rfl) ?_
              have hPc : va_P D classes (XW cI cZ cW Z Y (Z 1 0) (Z 2 0) S a) H := P_pre hP
              have hDc : va_D A (XW cI cZ cW Z Y (Z 1 0) (Z 2 0) S a) := D_pre hD
              have hFc := va_freeX hDc hS hA
              refine va_calli (va_runV (As := []) (rest := []) ⟨hx, hb, hml, hown, hts⟩ (c_X6_fault l D cI cZ cW Z Y H.size S a _ hf) ⟨callB_of 0 hts (gT tw_201) rfl rfl rfl (ht _ tw_1) (ht _ tw_198) hd_X6_fault ⟨Nat.le_of_ble_eq_true rfl, Nat.le_of_ble_eq_true rfl⟩, ht _ tw_199, ht _ tw_200⟩ ⟨PW_blind, va_recv hK hPc (ci := 4) (q0 := 0) rfl eX_0, fun U hU hW => PW_mk hPc hDc hK hU hW⟩ rfl rfl hl.1 rfl (lv_room (Nat.le_of_ble_eq_true rfl)) dL_law_201 ⟨Nat.le_of_ble_eq_true rfl, Nat.le_of_ble_eq_true rfl⟩) hS (fun q _ h => hFc q h) hFc (fun r_31 u t H1 locs ht1 hvm hf hB hz1 hk1 hS => ?_)
              obtain ⟨S_32, a_33⟩ := u
              dsimp only at hf hB
              rw [ht1] at hB
              have hP := cjP hP hD hk1 hB
              have hD : va_D A ((XW cI cZ cW Z Y (Z 1 0) (Z 2 0) S_32 a_33) ++ wM cI cZ q9 s9) := D_L hD
              generalize H1 = H at hP hS ⊢
              refine W.eq (g2 := F0 m 204 ls [.int r_31]) rfl ?_
              refine lv_pop hx hb dL_law_204 rfl ?_
              refine lv_aload_n hx hb dL_law_205 rfl (lv_at hl 2 rfl) ?_
              have hPc : va_P D classes (wM cI cZ q9 s9) H := P_suf hP
              have hDc : va_D A (wM cI cZ q9 s9) := D_suf hD
              have hFc := va_freeX hDc hS hA
              refine va_calli (va_runV (As := []) (rest := []) ⟨hx, hb, hml, hown, hts⟩ (c_X7_fault l D cI cZ cW q9 H.size s9 _ hf) ⟨callB_of 0 hts (gT tw_755) rfl rfl rfl (ht _ tw_7) (ht _ tw_752) hd_X7_fault ⟨Nat.le_of_ble_eq_true rfl, Nat.le_of_ble_eq_true rfl⟩, ht _ tw_753, ht _ tw_754⟩ ⟨PW_blind, va_recv hK hPc (ci := 5) (q0 := 0) rfl eM_0, fun U hU hW => PW_mk hPc hDc hK hU hW⟩ rfl rfl hl.1 rfl (lv_room (Nat.le_of_ble_eq_true rfl)) dL_law_206 ⟨Nat.le_of_ble_eq_true rfl, Nat.le_of_ble_eq_true rfl⟩) hS (fun q _ h => hFc q h) hFc (fun r_34 u t H1 locs ht1 hvm hf hB hz1 hk1 hS => ?_)
              obtain ⟨s9_35, rfl⟩ : ∃ z, z = u := ⟨_, rfl⟩
              rw [ht1] at hB
              have hP := cjT hP hD hk1 hB
              have hD : va_D A ((XW cI cZ cW Z Y (Z 1 0) (Z 2 0) S_32 a_33) ++ wM cI cZ q9 s9_35) := D_L hD
              generalize H1 = H at hP hS ⊢
              refine W.eq (g2 := F0 m 209 ls [.int r_34]) rfl ?_
              refine lv_pop hx hb dL_law_209 rfl ?_
              refine lv_goto (tgt := 1073) hx hb dL_law_210 (by decide) ?_
              exact k_1073 x3 Z S_32 a_33 s9_35 H locs ls hf hP hD hS (lv_sub hl [0, 1, 2, 3] rfl)
            · have hf := hf.2 c_30
              by_cases c_36 : ((xs x3.toNatClampNeg) &&& (31 : Int32)) = (3 : Int32)
              · have hf := hf.1 c_36
                refine lv_tableIn (off := 181) (tgt := 213) hx hb dL_law_32 (by rw [c_36]; decide) (by rw [c_36]; decide) (by rw [c_36]; first | done | rfl) (by decide) ?_
                refine lv_aload_n hx hb dL_law_213 rfl (lv_at hl 1 rfl) ?_
                have hPc : va_P D classes (XW cI cZ cW Z Y (Z 1 0) (Z 2 0) S a) H := P_pre hP
                have hDc : va_D A (XW cI cZ cW Z Y (Z 1 0) (Z 2 0) S a) := D_pre hD
                have hFc := va_freeX hDc hS hA
                refine va_calli (va_runV (As := []) (rest := []) ⟨hx, hb, hml, hown, hts⟩ (c_X6_dairy l D cI cZ cW Z Y H.size S a _ hf) ⟨callB_of 0 hts (gT tw_257) rfl rfl rfl (ht _ tw_1) (ht _ tw_254) hd_X6_dairy ⟨Nat.le_of_ble_eq_true rfl, Nat.le_of_ble_eq_true rfl⟩, ht _ tw_255, ht _ tw_256⟩ ⟨PW_blind, va_recv hK hPc (ci := 4) (q0 := 0) rfl eX_0, fun U hU hW => PW_mk hPc hDc hK hU hW⟩ rfl rfl hl.1 rfl (lv_room (Nat.le_of_ble_eq_true rfl)) dL_law_214 ⟨Nat.le_of_ble_eq_true rfl, Nat.le_of_ble_eq_true rfl⟩) hS (fun q _ h => hFc q h) hFc (fun r_37 u t H1 locs ht1 hvm hf hB hz1 hk1 hS => ?_)
                obtain ⟨Z_38, S_39, a_40⟩ := u
                dsimp only at hf hB
                obtain ⟨hB, hDB⟩ := hB
                rw [ht1] at hB
                have hDn := cjQ hP hD hFc hDB (suf := wM cI cZ q9 s9)
                have hP := cjP hP hD hk1 hB
                have hD := hDn
                clear hDn
                obtain ⟨hz_41, hf⟩ := hf
                rw [← hz_41] at hl
                generalize H1 = H at hP hS ⊢
                refine W.eq (g2 := F0 m 217 ls [.int r_37]) rfl ?_
                refine lv_aload_n hx hb dL_law_217 rfl (lv_at hl 2 rfl) ?_
                have hPc : va_P D classes (wM cI cZ q9 s9) H := P_suf hP
                have hDc : va_D A (wM cI cZ q9 s9) := D_suf hD
                have hFc := va_freeX hDc hS hA
                refine va_calli (va_runV (As := []) (rest := [.int r_37]) ⟨hx, hb, hml, hown, hts⟩ (c_X7_dairy l D cI cZ cW q9 H.size s9 _ hf) ⟨callB_of 0 hts (gT tw_776) rfl rfl rfl (ht _ tw_7) (ht _ tw_773) hd_X7_dairy ⟨Nat.le_of_ble_eq_true rfl, Nat.le_of_ble_eq_true rfl⟩, ht _ tw_774, ht _ tw_775⟩ ⟨PW_blind, va_recv hK hPc (ci := 5) (q0 := 0) rfl eM_0, fun U hU hW => PW_mk hPc hDc hK hU hW⟩ rfl rfl hl.1 rfl (lv_room (Nat.le_of_ble_eq_true rfl)) dL_law_218 ⟨Nat.le_of_ble_eq_true rfl, Nat.le_of_ble_eq_true rfl⟩) hS (fun q _ h => hFc q h) hFc (fun r_42 u t H1 locs ht1 hvm hf hB hz1 hk1 hS => ?_)
                obtain ⟨s9_43, rfl⟩ : ∃ z, z = u := ⟨_, rfl⟩
                rw [ht1] at hB
                have hP := cjT hP hD hk1 hB
                have hD : va_D A ((XW cI cZ cW Z_38 Y (Z_38 1 0) (Z_38 2 0) S_39 a_40) ++ wM cI cZ q9 s9_43) := D_L hD
                generalize H1 = H at hP hS ⊢
                refine W.eq (g2 := F0 m 221 ls [.int r_42, .int r_37]) rfl ?_
                refine lv_icmp_eq (tgt := 1073) hx hb dL_law_221 (by decide) (fun c_44 => ?_) (fun c_44 => ?_)
                · have hf := hf.1 c_44
                  exact k_1073 x3 Z_38 S_39 a_40 s9_43 H locs ls hf hP hD hS (lv_sub hl [0, 1, 2, 3] rfl)
                · have hf := hf.2 c_44
                  refine lv_iconst (v := (0 : Int32)) hx hb dL_law_224 (by decide) ?_
                  exact hf.elim
              · have hf := hf.2 c_36
                by_cases c_45 : ((xs x3.toNatClampNeg) &&& (31 : Int32)) = (4 : Int32)
                · have hf := hf.1 c_45
                  refine lv_tableIn (off := 194) (tgt := 226) hx hb dL_law_32 (by rw [c_45]; decide) (by rw [c_45]; decide) (by rw [c_45]; first | done | rfl) (by decide) ?_
                  refine lv_aload_n hx hb dL_law_226 rfl (lv_at hl 1 rfl) ?_
                  refine lv_aload_n hx hb dL_law_227 rfl (lv_at hl 0 rfl) ?_
                  refine lv_iload_n hx hb dL_law_228 rfl (lv_at hl 3 rfl) ?_
                  refine lv_iconst (v := (1 : Int32)) hx hb dL_law_229 (by decide) ?_
                  refine lv_iadd hx hb dL_law_230 ?_
                  obtain ⟨hi_46, hf⟩ := hf
                  refine va_sld hx hb hX hbl hbA hS hi_46 dL_law_231 ?_
                  refine lv_aload_n hx hb dL_law_232 rfl (lv_at hl 0 rfl) ?_
                  refine lv_iload_n hx hb dL_law_233 rfl (lv_at hl 3 rfl) ?_
                  refine lv_iconst (v := (2 : Int32)) hx hb dL_law_234 (by decide) ?_
                  refine lv_iadd hx hb dL_law_235 ?_
                  obtain ⟨hi_47, hf⟩ := hf
                  refine va_sld hx hb hX hbl hbA hS hi_47 dL_law_236 ?_
                  have hPc : va_P D classes (XW cI cZ cW Z Y (Z 1 0) (Z 2 0) S a) H := P_pre hP
                  refine vp_callSi (W.runV (As := [.int (xs (x3 + (1 : Int32)).toNatClampNeg), .int (xs (x3 + (2 : Int32)).toNatClampNeg)]) (rest := []) ⟨hx, hb, hml, hown, hts⟩ (c_X6_owner l D cI cZ cW Z Y (xs (x3 + (1 : Int32)).toNatClampNeg) (xs (x3 + (2 : Int32)).toNatClampNeg) S a _ hf) ⟨callB_of 2 hts (gT tw_274) rfl rfl rfl (ht _ tw_1) (ht _ tw_271) hd_X6_owner ⟨Nat.le_of_ble_eq_true rfl, Nat.le_of_ble_eq_true rfl⟩, ht _ tw_272, ht _ tw_273⟩ ⟨PR_blind, va_recv hK hPc (ci := 4) (q0 := 0) rfl eX_0, fun U hU hW => PR_mk hPc hK hU hW⟩ rfl rfl hl.1 rfl (lv_room (Nat.le_of_ble_eq_true rfl)) dL_law_237 ⟨Nat.le_of_ble_eq_true rfl, Nat.le_of_ble_eq_true rfl⟩) (fun r_48 hf => ?_)
                  refine lv_pop hx hb dL_law_240 rfl ?_
                  refine lv_aload_n hx hb dL_law_241 rfl (lv_at hl 2 rfl) ?_
                  refine lv_aload_n hx hb dL_law_242 rfl (lv_at hl 0 rfl) ?_
                  refine lv_iload_n hx hb dL_law_243 rfl (lv_at hl 3 rfl) ?_
                  refine lv_iconst (v := (1 : Int32)) hx hb dL_law_244 (by decide) ?_
                  refine lv_iadd hx hb dL_law_245 ?_
                  obtain ⟨hi_49, hf⟩ := hf
                  refine va_sld hx hb hX hbl hbA hS hi_49 dL_law_246 ?_
                  refine lv_aload_n hx hb dL_law_247 rfl (lv_at hl 0 rfl) ?_
                  refine lv_iload_n hx hb dL_law_248 rfl (lv_at hl 3 rfl) ?_
                  refine lv_iconst (v := (2 : Int32)) hx hb dL_law_249 (by decide) ?_
                  refine lv_iadd hx hb dL_law_250 ?_
                  obtain ⟨hi_50, hf⟩ := hf
                  refine va_sld hx hb hX hbl hbA hS hi_50 dL_law_251 ?_
                  have hPc : va_P D classes (wM cI cZ q9 s9) H := P_suf hP
                  refine vp_callSi (W.runV (As := [.int (xs (x3 + (1 : Int32)).toNatClampNeg), .int (xs (x3 + (2 : Int32)).toNatClampNeg)]) (rest := []) ⟨hx, hb, hml, hown, hts⟩ (c_X7_owner l D cI cZ cW q9 (xs (x3 + (1 : Int32)).toNatClampNeg) (xs (x3 + (2 : Int32)).toNatClampNeg) s9 _ hf) ⟨callB_of 2 hts (gT tw_780) rfl rfl rfl (ht _ tw_7) (ht _ tw_777) hd_X7_owner ⟨Nat.le_of_ble_eq_true rfl, Nat.le_of_ble_eq_true rfl⟩, ht _ tw_778, ht _ tw_779⟩ ⟨PR_blind, va_recv hK hPc (ci := 5) (q0 := 0) rfl eM_0, fun U hU hW => PR_mk hPc hK hU hW⟩ rfl rfl hl.1 rfl (lv_room (Nat.le_of_ble_eq_true rfl)) dL_law_252 ⟨Nat.le_of_ble_eq_true rfl, Nat.le_of_ble_eq_true rfl⟩) (fun r_51 hf => ?_)
                  refine lv_pop hx hb dL_law_255 rfl ?_
                  refine lv_goto (tgt := 1073) hx hb dL_law_256 (by decide) ?_
                  exact k_1073 x3 Z S a s9 H locs ls hf hP hD hS (lv_sub hl [0, 1, 2, 3] rfl)
                · have hf := hf.2 c_45
                  by_cases c_52 : ((xs x3.toNatClampNeg) &&& (31 : Int32)) = (5 : Int32)
                  · have hf := hf.1 c_52
                    refine lv_tableIn (off := 227) (tgt := 259) hx hb dL_law_32 (by rw [c_52]; decide) (by rw [c_52]; decide) (by rw [c_52]; first | done | rfl) (by decide) ?_
                    refine lv_aload_n hx hb dL_law_259 rfl (lv_at hl 1 rfl) ?_
                    refine lv_aload_n hx hb dL_law_260 rfl (lv_at hl 0 rfl) ?_
                    refine lv_iload_n hx hb dL_law_261 rfl (lv_at hl 3 rfl) ?_
                    refine lv_iconst (v := (1 : Int32)) hx hb dL_law_262 (by decide) ?_
                    refine lv_iadd hx hb dL_law_263 ?_
                    obtain ⟨hi_53, hf⟩ := hf
                    refine va_sld hx hb hX hbl hbA hS hi_53 dL_law_264 ?_
                    refine lv_aload_n hx hb dL_law_265 rfl (lv_at hl 0 rfl) ?_
                    refine lv_iload_n hx hb dL_law_266 rfl (lv_at hl 3 rfl) ?_
                    refine lv_iconst (v := (2 : Int32)) hx hb dL_law_267 (by decide) ?_
                    refine lv_iadd hx hb dL_law_268 ?_
                    obtain ⟨hi_54, hf⟩ := hf
                    refine va_sld hx hb hX hbl hbA hS hi_54 dL_law_269 ?_
                    have hPc : va_P D classes (XW cI cZ cW Z Y (Z 1 0) (Z 2 0) S a) H := P_pre hP
                    refine vp_callSi (W.runV (As := [.int (xs (x3 + (1 : Int32)).toNatClampNeg), .int (xs (x3 + (2 : Int32)).toNatClampNeg)]) (rest := []) ⟨hx, hb, hml, hown, hts⟩ (c_X6_hole l D cI cZ cW Z Y (xs (x3 + (1 : Int32)).toNatClampNeg) (xs (x3 + (2 : Int32)).toNatClampNeg) S a _ hf) ⟨callB_of 2 hts (gT tw_312) rfl rfl rfl (ht _ tw_1) (ht _ tw_309) hd_X6_hole ⟨Nat.le_of_ble_eq_true rfl, Nat.le_of_ble_eq_true rfl⟩, ht _ tw_310, ht _ tw_311⟩ ⟨PR_blind, va_recv hK hPc (ci := 4) (q0 := 0) rfl eX_0, fun U hU hW => PR_mk hPc hK hU hW⟩ rfl rfl hl.1 rfl (lv_room (Nat.le_of_ble_eq_true rfl)) dL_law_270 ⟨Nat.le_of_ble_eq_true rfl, Nat.le_of_ble_eq_true rfl⟩) (fun r_55 hf => ?_)
                    refine lv_pop hx hb dL_law_273 rfl ?_
                    refine lv_aload_n hx hb dL_law_274 rfl (lv_at hl 2 rfl) ?_
                    refine lv_aload_n hx hb dL_law_275 rfl (lv_at hl 0 rfl) ?_
                    refine lv_iload_n hx hb dL_law_276 rfl (lv_at hl 3 rfl) ?_
                    refine lv_iconst (v := (1 : Int32)) hx hb dL_law_277 (by decide) ?_
                    refine lv_iadd hx hb dL_law_278 ?_
                    obtain ⟨hi_56, hf⟩ := hf
                    refine va_sld hx hb hX hbl hbA hS hi_56 dL_law_279 ?_
                    refine lv_aload_n hx hb dL_law_280 rfl (lv_at hl 0 rfl) ?_
                    refine lv_iload_n hx hb dL_law_281 rfl (lv_at hl 3 rfl) ?_
                    refine lv_iconst (v := (2 : Int32)) hx hb dL_law_282 (by decide) ?_
                    refine lv_iadd hx hb dL_law_283 ?_
                    obtain ⟨hi_57, hf⟩ := hf
                    refine va_sld hx hb hX hbl hbA hS hi_57 dL_law_284 ?_
                    have hPc : va_P D classes (wM cI cZ q9 s9) H := P_suf hP
                    refine vp_callSi (W.runV (As := [.int (xs (x3 + (1 : Int32)).toNatClampNeg), .int (xs (x3 + (2 : Int32)).toNatClampNeg)]) (rest := []) ⟨hx, hb, hml, hown, hts⟩ (c_X7_hole l D cI cZ cW q9 (xs (x3 + (1 : Int32)).toNatClampNeg) (xs (x3 + (2 : Int32)).toNatClampNeg) s9 _ hf) ⟨callB_of 2 hts (gT tw_799) rfl rfl rfl (ht _ tw_7) (ht _ tw_796) hd_X7_hole ⟨Nat.le_of_ble_eq_true rfl, Nat.le_of_ble_eq_true rfl⟩, ht _ tw_797, ht _ tw_798⟩ ⟨PR_blind, va_recv hK hPc (ci := 5) (q0 := 0) rfl eM_0, fun U hU hW => PR_mk hPc hK hU hW⟩ rfl rfl hl.1 rfl (lv_room (Nat.le_of_ble_eq_true rfl)) dL_law_285 ⟨Nat.le_of_ble_eq_true rfl, Nat.le_of_ble_eq_true rfl⟩) (fun r_58 hf => ?_)
                    refine lv_pop hx hb dL_law_288 rfl ?_
                    refine lv_goto (tgt := 1073) hx hb dL_law_289 (by decide) ?_
                    exact k_1073 x3 Z S a s9 H locs ls hf hP hD hS (lv_sub hl [0, 1, 2, 3] rfl)
                  · have hf := hf.2 c_52
                    by_cases c_59 : ((xs x3.toNatClampNeg) &&& (31 : Int32)) = (6 : Int32)
                    · have hf := hf.1 c_59
                      refine lv_tableIn (off := 260) (tgt := 292) hx hb dL_law_32 (by rw [c_59]; decide) (by rw [c_59]; decide) (by rw [c_59]; first | done | rfl) (by decide) ?_
                      refine lv_aload_n hx hb dL_law_292 rfl (lv_at hl 1 rfl) ?_
                      refine lv_aload_n hx hb dL_law_293 rfl (lv_at hl 0 rfl) ?_
                      refine lv_iload_n hx hb dL_law_294 rfl (lv_at hl 3 rfl) ?_
                      refine lv_iconst (v := (1 : Int32)) hx hb dL_law_295 (by decide) ?_
                      refine lv_iadd hx hb dL_law_296 ?_
                      obtain ⟨hi_60, hf⟩ := hf
                      refine va_sld hx hb hX hbl hbA hS hi_60 dL_law_297 ?_
                      refine lv_aload_n hx hb dL_law_298 rfl (lv_at hl 0 rfl) ?_
                      refine lv_iload_n hx hb dL_law_299 rfl (lv_at hl 3 rfl) ?_
                      refine lv_iconst (v := (2 : Int32)) hx hb dL_law_300 (by decide) ?_
                      refine lv_iadd hx hb dL_law_301 ?_
                      obtain ⟨hi_61, hf⟩ := hf
                      refine va_sld hx hb hX hbl hbA hS hi_61 dL_law_302 ?_
                      have hPc : va_P D classes (XW cI cZ cW Z Y (Z 1 0) (Z 2 0) S a) H := P_pre hP
                      refine vp_callSi (W.runV (As := [.int (xs (x3 + (1 : Int32)).toNatClampNeg), .int (xs (x3 + (2 : Int32)).toNatClampNeg)]) (rest := []) ⟨hx, hb, hml, hown, hts⟩ (c_X6_cell l D cI cZ cW Z Y (xs (x3 + (1 : Int32)).toNatClampNeg) (xs (x3 + (2 : Int32)).toNatClampNeg) S a _ hf) ⟨callB_of 2 hts (gT tw_327) rfl rfl rfl (ht _ tw_1) (ht _ tw_324) hd_X6_cell ⟨Nat.le_of_ble_eq_true rfl, Nat.le_of_ble_eq_true rfl⟩, ht _ tw_325, ht _ tw_326⟩ ⟨PR_blind, va_recv hK hPc (ci := 4) (q0 := 0) rfl eX_0, fun U hU hW => PR_mk hPc hK hU hW⟩ rfl rfl hl.1 rfl (lv_room (Nat.le_of_ble_eq_true rfl)) dL_law_303 ⟨Nat.le_of_ble_eq_true rfl, Nat.le_of_ble_eq_true rfl⟩) (fun r_62 hf => ?_)
                      refine lv_pop hx hb dL_law_306 rfl ?_
                      refine lv_aload_n hx hb dL_law_307 rfl (lv_at hl 2 rfl) ?_
                      refine lv_aload_n hx hb dL_law_308 rfl (lv_at hl 0 rfl) ?_
                      refine lv_iload_n hx hb dL_law_309 rfl (lv_at hl 3 rfl) ?_
                      refine lv_iconst (v := (1 : Int32)) hx hb dL_law_310 (by decide) ?_
                      refine lv_iadd hx hb dL_law_311 ?_
                      obtain ⟨hi_63, hf⟩ := hf
                      refine va_sld hx hb hX hbl hbA hS hi_63 dL_law_312 ?_
                      refine lv_aload_n hx hb dL_law_313 rfl (lv_at hl 0 rfl) ?_
                      refine lv_iload_n hx hb dL_law_314 rfl (lv_at hl 3 rfl) ?_
                      refine lv_iconst (v := (2 : Int32)) hx hb dL_law_315 (by decide) ?_
                      refine lv_iadd hx hb dL_law_316 ?_
                      obtain ⟨hi_64, hf⟩ := hf
                      refine va_sld hx hb hX hbl hbA hS hi_64 dL_law_317 ?_
                      have hPc : va_P D classes (wM cI cZ q9 s9) H := P_suf hP
                      refine vp_callSi (W.runV (As := [.int (xs (x3 + (1 : Int32)).toNatClampNeg), .int (xs (x3 + (2 : Int32)).toNatClampNeg)]) (rest := []) ⟨hx, hb, hml, hown, hts⟩ (c_X7_cell l D cI cZ cW q9 (xs (x3 + (1 : Int32)).toNatClampNeg) (xs (x3 + (2 : Int32)).toNatClampNeg) s9 _ hf) ⟨callB_of 2 hts (gT tw_811) rfl rfl rfl (ht _ tw_7) (ht _ tw_808) hd_X7_cell ⟨Nat.le_of_ble_eq_true rfl, Nat.le_of_ble_eq_true rfl⟩, ht _ tw_809, ht _ tw_810⟩ ⟨PR_blind, va_recv hK hPc (ci := 5) (q0 := 0) rfl eM_0, fun U hU hW => PR_mk hPc hK hU hW⟩ rfl rfl hl.1 rfl (lv_room (Nat.le_of_ble_eq_true rfl)) dL_law_318 ⟨Nat.le_of_ble_eq_true rfl, Nat.le_of_ble_eq_true rfl⟩) (fun r_65 hf => ?_)
                      refine lv_pop hx hb dL_law_321 rfl ?_
                      refine lv_goto (tgt := 1073) hx hb dL_law_322 (by decide) ?_
                      exact k_1073 x3 Z S a s9 H locs ls hf hP hD hS (lv_sub hl [0, 1, 2, 3] rfl)
                    · have hf := hf.2 c_59
                      by_cases c_66 : ((xs x3.toNatClampNeg) &&& (31 : Int32)) = (7 : Int32)
                      · have hf := hf.1 c_66
                        refine lv_tableIn (off := 293) (tgt := 325) hx hb dL_law_32 (by rw [c_66]; decide) (by rw [c_66]; decide) (by rw [c_66]; first | done | rfl) (by decide) ?_
                        refine lv_aload_n hx hb dL_law_325 rfl (lv_at hl 1 rfl) ?_
                        have hPc : va_P D classes (XW cI cZ cW Z Y (Z 1 0) (Z 2 0) S a) H := P_pre hP
                        have hDc : va_D A (XW cI cZ cW Z Y (Z 1 0) (Z 2 0) S a) := D_pre hD
                        have hFc := va_freeX hDc hS hA
                        refine va_calli (va_runV (As := []) (rest := []) ⟨hx, hb, hml, hown, hts⟩ (c_X6_day l D cI cZ cW Z Y H.size S a _ hf) ⟨callB_of 0 hts (gT tw_346) rfl rfl rfl (ht _ tw_1) (ht _ tw_343) hd_X6_day ⟨Nat.le_of_ble_eq_true rfl, Nat.le_of_ble_eq_true rfl⟩, ht _ tw_344, ht _ tw_345⟩ ⟨PW_blind, va_recv hK hPc (ci := 4) (q0 := 0) rfl eX_0, fun U hU hW => PW_mk hPc hDc hK hU hW⟩ rfl rfl hl.1 rfl (lv_room (Nat.le_of_ble_eq_true rfl)) dL_law_326 ⟨Nat.le_of_ble_eq_true rfl, Nat.le_of_ble_eq_true rfl⟩) hS (fun q _ h => hFc q h) hFc (fun r_67 u t H1 locs ht1 hvm hf hB hz1 hk1 hS => ?_)
                        obtain ⟨S_68, a_69⟩ := u
                        dsimp only at hf hB
                        rw [ht1] at hB
                        have hP := cjP hP hD hk1 hB
                        have hD : va_D A ((XW cI cZ cW Z Y (Z 1 0) (Z 2 0) S_68 a_69) ++ wM cI cZ q9 s9) := D_L hD
                        generalize H1 = H at hP hS ⊢
                        refine W.eq (g2 := F0 m 329 ls [.int r_67]) rfl ?_
                        refine lv_pop hx hb dL_law_329 rfl ?_
                        refine lv_aload_n hx hb dL_law_330 rfl (lv_at hl 2 rfl) ?_
                        have hPc : va_P D classes (wM cI cZ q9 s9) H := P_suf hP
                        have hDc : va_D A (wM cI cZ q9 s9) := D_suf hD
                        have hFc := va_freeX hDc hS hA
                        refine va_calli (va_runV (As := []) (rest := []) ⟨hx, hb, hml, hown, hts⟩ (c_X7_day l D cI cZ cW q9 H.size s9 _ hf) ⟨callB_of 0 hts (gT tw_818) rfl rfl rfl (ht _ tw_7) (ht _ tw_815) hd_X7_day ⟨Nat.le_of_ble_eq_true rfl, Nat.le_of_ble_eq_true rfl⟩, ht _ tw_816, ht _ tw_817⟩ ⟨PW_blind, va_recv hK hPc (ci := 5) (q0 := 0) rfl eM_0, fun U hU hW => PW_mk hPc hDc hK hU hW⟩ rfl rfl hl.1 rfl (lv_room (Nat.le_of_ble_eq_true rfl)) dL_law_331 ⟨Nat.le_of_ble_eq_true rfl, Nat.le_of_ble_eq_true rfl⟩) hS (fun q _ h => hFc q h) hFc (fun r_70 u t H1 locs ht1 hvm hf hB hz1 hk1 hS => ?_)
                        obtain ⟨s9_71, rfl⟩ : ∃ z, z = u := ⟨_, rfl⟩
                        rw [ht1] at hB
                        have hP := cjT hP hD hk1 hB
                        have hD : va_D A ((XW cI cZ cW Z Y (Z 1 0) (Z 2 0) S_68 a_69) ++ wM cI cZ q9 s9_71) := D_L hD
                        generalize H1 = H at hP hS ⊢
                        refine W.eq (g2 := F0 m 334 ls [.int r_70]) rfl ?_
                        refine lv_pop hx hb dL_law_334 rfl ?_
                        refine lv_goto (tgt := 1073) hx hb dL_law_335 (by decide) ?_
                        exact k_1073 x3 Z S_68 a_69 s9_71 H locs ls hf hP hD hS (lv_sub hl [0, 1, 2, 3] rfl)
                      · have hf := hf.2 c_66
                        by_cases c_72 : ((xs x3.toNatClampNeg) &&& (31 : Int32)) = (8 : Int32)
                        · have hf := hf.1 c_72
                          refine lv_tableIn (off := 306) (tgt := 338) hx hb dL_law_32 (by rw [c_72]; decide) (by rw [c_72]; decide) (by rw [c_72]; first | done | rfl) (by decide) ?_
                          refine lv_aload_n hx hb dL_law_338 rfl (lv_at hl 1 rfl) ?_
                          refine lv_aload_n hx hb dL_law_339 rfl (lv_at hl 0 rfl) ?_
                          refine lv_iload_n hx hb dL_law_340 rfl (lv_at hl 3 rfl) ?_
                          refine lv_iconst (v := (1 : Int32)) hx hb dL_law_341 (by decide) ?_
                          refine lv_iadd hx hb dL_law_342 ?_
                          obtain ⟨hi_73, hf⟩ := hf
                          refine va_sld hx hb hX hbl hbA hS hi_73 dL_law_343 ?_
                          refine lv_aload_n hx hb dL_law_344 rfl (lv_at hl 0 rfl) ?_
                          refine lv_iload_n hx hb dL_law_345 rfl (lv_at hl 3 rfl) ?_
                          refine lv_iconst (v := (2 : Int32)) hx hb dL_law_346 (by decide) ?_
                          refine lv_iadd hx hb dL_law_347 ?_
                          obtain ⟨hi_74, hf⟩ := hf
                          refine va_sld hx hb hX hbl hbA hS hi_74 dL_law_348 ?_
                          have hPc : va_P D classes (XW cI cZ cW Z Y (Z 1 0) (Z 2 0) S a) H := P_pre hP
                          have hDc : va_D A (XW cI cZ cW Z Y (Z 1 0) (Z 2 0) S a) := D_pre hD
                          have hFc := va_freeX hDc hS hA
                          refine va_calli (va_runV (As := [.int (xs (x3 + (1 : Int32)).toNatClampNeg), .int (xs (x3 + (2 : Int32)).toNatClampNeg)]) (rest := []) ⟨hx, hb, hml, hown, hts⟩ (c_X6_eat l D cI cZ cW Z Y H.size (xs (x3 + (1 : Int32)).toNatClampNeg) (xs (x3 + (2 : Int32)).toNatClampNeg) S a _ hf) ⟨callB_of 2 hts (gT tw_424) rfl rfl rfl (ht _ tw_1) (ht _ tw_421) hd_X6_eat ⟨Nat.le_of_ble_eq_true rfl, Nat.le_of_ble_eq_true rfl⟩, ht _ tw_422, ht _ tw_423⟩ ⟨PW_blind, va_recv hK hPc (ci := 4) (q0 := 0) rfl eX_0, fun U hU hW => PW_mk hPc hDc hK hU hW⟩ rfl rfl hl.1 rfl (lv_room (Nat.le_of_ble_eq_true rfl)) dL_law_349 ⟨Nat.le_of_ble_eq_true rfl, Nat.le_of_ble_eq_true rfl⟩) hS (fun q _ h => hFc q h) hFc (fun r_75 u t H1 locs ht1 hvm hf hB hz1 hk1 hS => ?_)
                          obtain ⟨S_76, a_77⟩ := u
                          dsimp only at hf hB
                          rw [ht1] at hB
                          have hP := cjP hP hD hk1 hB
                          have hD : va_D A ((XW cI cZ cW Z Y (Z 1 0) (Z 2 0) S_76 a_77) ++ wM cI cZ q9 s9) := D_L hD
                          generalize H1 = H at hP hS ⊢
                          refine W.eq (g2 := F0 m 352 ls [.int r_75]) rfl ?_
                          refine lv_pop hx hb dL_law_352 rfl ?_
                          refine lv_aload_n hx hb dL_law_353 rfl (lv_at hl 2 rfl) ?_
                          refine lv_aload_n hx hb dL_law_354 rfl (lv_at hl 0 rfl) ?_
                          refine lv_iload_n hx hb dL_law_355 rfl (lv_at hl 3 rfl) ?_
                          refine lv_iconst (v := (1 : Int32)) hx hb dL_law_356 (by decide) ?_
                          refine lv_iadd hx hb dL_law_357 ?_
                          obtain ⟨hi_78, hf⟩ := hf
                          refine va_sld hx hb hX hbl hbA hS hi_78 dL_law_358 ?_
                          refine lv_aload_n hx hb dL_law_359 rfl (lv_at hl 0 rfl) ?_
                          refine lv_iload_n hx hb dL_law_360 rfl (lv_at hl 3 rfl) ?_
                          refine lv_iconst (v := (2 : Int32)) hx hb dL_law_361 (by decide) ?_
                          refine lv_iadd hx hb dL_law_362 ?_
                          obtain ⟨hi_79, hf⟩ := hf
                          refine va_sld hx hb hX hbl hbA hS hi_79 dL_law_363 ?_
                          have hPc : va_P D classes (wM cI cZ q9 s9) H := P_suf hP
                          have hDc : va_D A (wM cI cZ q9 s9) := D_suf hD
                          have hFc := va_freeX hDc hS hA
                          refine va_calli (va_runV (As := [.int (xs (x3 + (1 : Int32)).toNatClampNeg), .int (xs (x3 + (2 : Int32)).toNatClampNeg)]) (rest := []) ⟨hx, hb, hml, hown, hts⟩ (c_X7_eat l D cI cZ cW q9 H.size (xs (x3 + (1 : Int32)).toNatClampNeg) (xs (x3 + (2 : Int32)).toNatClampNeg) s9 _ hf) ⟨callB_of 2 hts (gT tw_868) rfl rfl rfl (ht _ tw_7) (ht _ tw_865) hd_X7_eat ⟨Nat.le_of_ble_eq_true rfl, Nat.le_of_ble_eq_true rfl⟩, ht _ tw_866, ht _ tw_867⟩ ⟨PW_blind, va_recv hK hPc (ci := 5) (q0 := 0) rfl eM_0, fun U hU hW => PW_mk hPc hDc hK hU hW⟩ rfl rfl hl.1 rfl (lv_room (Nat.le_of_ble_eq_true rfl)) dL_law_364 ⟨Nat.le_of_ble_eq_true rfl, Nat.le_of_ble_eq_true rfl⟩) hS (fun q _ h => hFc q h) hFc (fun r_80 u t H1 locs ht1 hvm hf hB hz1 hk1 hS => ?_)
                          obtain ⟨s9_81, rfl⟩ : ∃ z, z = u := ⟨_, rfl⟩
                          rw [ht1] at hB
                          have hP := cjT hP hD hk1 hB
                          have hD : va_D A ((XW cI cZ cW Z Y (Z 1 0) (Z 2 0) S_76 a_77) ++ wM cI cZ q9 s9_81) := D_L hD
                          generalize H1 = H at hP hS ⊢
                          refine W.eq (g2 := F0 m 367 ls [.int r_80]) rfl ?_
                          refine lv_pop hx hb dL_law_367 rfl ?_
                          refine lv_goto (tgt := 1073) hx hb dL_law_368 (by decide) ?_
                          exact k_1073 x3 Z S_76 a_77 s9_81 H locs ls hf hP hD hS (lv_sub hl [0, 1, 2, 3] rfl)
                        · have hf := hf.2 c_72
                          by_cases c_82 : ((xs x3.toNatClampNeg) &&& (31 : Int32)) = (9 : Int32)
                          · have hf := hf.1 c_82
                            refine lv_tableIn (off := 339) (tgt := 371) hx hb dL_law_32 (by rw [c_82]; decide) (by rw [c_82]; decide) (by rw [c_82]; first | done | rfl) (by decide) ?_
                            refine lv_aload_n hx hb dL_law_371 rfl (lv_at hl 1 rfl) ?_
                            refine lv_aload_n hx hb dL_law_372 rfl (lv_at hl 0 rfl) ?_
                            refine lv_iload_n hx hb dL_law_373 rfl (lv_at hl 3 rfl) ?_
                            refine lv_iconst (v := (1 : Int32)) hx hb dL_law_374 (by decide) ?_
                            refine lv_iadd hx hb dL_law_375 ?_
                            obtain ⟨hi_83, hf⟩ := hf
                            refine va_sld hx hb hX hbl hbA hS hi_83 dL_law_376 ?_
                            refine lv_aload_n hx hb dL_law_377 rfl (lv_at hl 0 rfl) ?_
                            refine lv_iload_n hx hb dL_law_378 rfl (lv_at hl 3 rfl) ?_
                            refine lv_iconst (v := (2 : Int32)) hx hb dL_law_379 (by decide) ?_
                            refine lv_iadd hx hb dL_law_380 ?_
                            obtain ⟨hi_84, hf⟩ := hf
                            refine va_sld hx hb hX hbl hbA hS hi_84 dL_law_381 ?_
                            have hPc : va_P D classes (XW cI cZ cW Z Y (Z 1 0) (Z 2 0) S a) H := P_pre hP
                            have hDc : va_D A (XW cI cZ cW Z Y (Z 1 0) (Z 2 0) S a) := D_pre hD
                            have hFc := va_freeX hDc hS hA
                            refine va_calli (va_runV (As := [.int (xs (x3 + (1 : Int32)).toNatClampNeg), .int (xs (x3 + (2 : Int32)).toNatClampNeg)]) (rest := []) ⟨hx, hb, hml, hown, hts⟩ (c_X6_let l D cI cZ cW Z Y H.size (xs (x3 + (1 : Int32)).toNatClampNeg) (xs (x3 + (2 : Int32)).toNatClampNeg) S a _ hf) ⟨callB_of 2 hts (gT tw_439) rfl rfl rfl (ht _ tw_1) (ht _ tw_436) hd_X6_let ⟨Nat.le_of_ble_eq_true rfl, Nat.le_of_ble_eq_true rfl⟩, ht _ tw_437, ht _ tw_438⟩ ⟨PW_blind, va_recv hK hPc (ci := 4) (q0 := 0) rfl eX_0, fun U hU hW => PW_mk hPc hDc hK hU hW⟩ rfl rfl hl.1 rfl (lv_room (Nat.le_of_ble_eq_true rfl)) dL_law_382 ⟨Nat.le_of_ble_eq_true rfl, Nat.le_of_ble_eq_true rfl⟩) hS (fun q _ h => hFc q h) hFc (fun r_85 u t H1 locs ht1 hvm hf hB hz1 hk1 hS => ?_)
                            obtain ⟨S_86, a_87⟩ := u
                            dsimp only at hf hB
                            rw [ht1] at hB
                            have hP := cjP hP hD hk1 hB
                            have hD : va_D A ((XW cI cZ cW Z Y (Z 1 0) (Z 2 0) S_86 a_87) ++ wM cI cZ q9 s9) := D_L hD
                            generalize H1 = H at hP hS ⊢
                            refine W.eq (g2 := F0 m 385 ls [.int r_85]) rfl ?_
                            refine lv_pop hx hb dL_law_385 rfl ?_
                            refine lv_aload_n hx hb dL_law_386 rfl (lv_at hl 2 rfl) ?_
                            refine lv_aload_n hx hb dL_law_387 rfl (lv_at hl 0 rfl) ?_
                            refine lv_iload_n hx hb dL_law_388 rfl (lv_at hl 3 rfl) ?_
                            refine lv_iconst (v := (1 : Int32)) hx hb dL_law_389 (by decide) ?_
                            refine lv_iadd hx hb dL_law_390 ?_
                            obtain ⟨hi_88, hf⟩ := hf
                            refine va_sld hx hb hX hbl hbA hS hi_88 dL_law_391 ?_
                            refine lv_aload_n hx hb dL_law_392 rfl (lv_at hl 0 rfl) ?_
                            refine lv_iload_n hx hb dL_law_393 rfl (lv_at hl 3 rfl) ?_
                            refine lv_iconst (v := (2 : Int32)) hx hb dL_law_394 (by decide) ?_
                            refine lv_iadd hx hb dL_law_395 ?_
                            obtain ⟨hi_89, hf⟩ := hf
                            refine va_sld hx hb hX hbl hbA hS hi_89 dL_law_396 ?_
                            have hPc : va_P D classes (wM cI cZ q9 s9) H := P_suf hP
                            have hDc : va_D A (wM cI cZ q9 s9) := D_suf hD
                            have hFc := va_freeX hDc hS hA
                            refine va_calli (va_runV (As := [.int (xs (x3 + (1 : Int32)).toNatClampNeg), .int (xs (x3 + (2 : Int32)).toNatClampNeg)]) (rest := []) ⟨hx, hb, hml, hown, hts⟩ (c_X7_let l D cI cZ cW q9 H.size (xs (x3 + (1 : Int32)).toNatClampNeg) (xs (x3 + (2 : Int32)).toNatClampNeg) s9 _ hf) ⟨callB_of 2 hts (gT tw_880) rfl rfl rfl (ht _ tw_7) (ht _ tw_877) hd_X7_let ⟨Nat.le_of_ble_eq_true rfl, Nat.le_of_ble_eq_true rfl⟩, ht _ tw_878, ht _ tw_879⟩ ⟨PW_blind, va_recv hK hPc (ci := 5) (q0 := 0) rfl eM_0, fun U hU hW => PW_mk hPc hDc hK hU hW⟩ rfl rfl hl.1 rfl (lv_room (Nat.le_of_ble_eq_true rfl)) dL_law_397 ⟨Nat.le_of_ble_eq_true rfl, Nat.le_of_ble_eq_true rfl⟩) hS (fun q _ h => hFc q h) hFc (fun r_90 u t H1 locs ht1 hvm hf hB hz1 hk1 hS => ?_)
                            obtain ⟨s9_91, rfl⟩ : ∃ z, z = u := ⟨_, rfl⟩
                            rw [ht1] at hB
                            have hP := cjT hP hD hk1 hB
                            have hD : va_D A ((XW cI cZ cW Z Y (Z 1 0) (Z 2 0) S_86 a_87) ++ wM cI cZ q9 s9_91) := D_L hD
                            generalize H1 = H at hP hS ⊢
                            refine W.eq (g2 := F0 m 400 ls [.int r_90]) rfl ?_
                            refine lv_pop hx hb dL_law_400 rfl ?_
                            refine lv_goto (tgt := 1073) hx hb dL_law_401 (by decide) ?_
                            exact k_1073 x3 Z S_86 a_87 s9_91 H locs ls hf hP hD hS (lv_sub hl [0, 1, 2, 3] rfl)
                          · have hf := hf.2 c_82
                            by_cases c_92 : ((xs x3.toNatClampNeg) &&& (31 : Int32)) = (10 : Int32)
                            · have hf := hf.1 c_92
                              refine lv_tableIn (off := 372) (tgt := 404) hx hb dL_law_32 (by rw [c_92]; decide) (by rw [c_92]; decide) (by rw [c_92]; first | done | rfl) (by decide) ?_
                              refine lv_aload_n hx hb dL_law_404 rfl (lv_at hl 1 rfl) ?_
                              refine lv_aload_n hx hb dL_law_405 rfl (lv_at hl 0 rfl) ?_
                              refine lv_iload_n hx hb dL_law_406 rfl (lv_at hl 3 rfl) ?_
                              refine lv_iconst (v := (1 : Int32)) hx hb dL_law_407 (by decide) ?_
                              refine lv_iadd hx hb dL_law_408 ?_
                              obtain ⟨hi_93, hf⟩ := hf
                              refine va_sld hx hb hX hbl hbA hS hi_93 dL_law_409 ?_
                              refine lv_aload_n hx hb dL_law_410 rfl (lv_at hl 0 rfl) ?_
                              refine lv_iload_n hx hb dL_law_411 rfl (lv_at hl 3 rfl) ?_
                              refine lv_iconst (v := (2 : Int32)) hx hb dL_law_412 (by decide) ?_
                              refine lv_iadd hx hb dL_law_413 ?_
                              obtain ⟨hi_94, hf⟩ := hf
                              refine va_sld hx hb hX hbl hbA hS hi_94 dL_law_414 ?_
                              have hPc : va_P D classes (XW cI cZ cW Z Y (Z 1 0) (Z 2 0) S a) H := P_pre hP
                              have hDc : va_D A (XW cI cZ cW Z Y (Z 1 0) (Z 2 0) S a) := D_pre hD
                              have hFc := va_freeX hDc hS hA
                              refine va_calli (va_runV (As := [.int (xs (x3 + (1 : Int32)).toNatClampNeg), .int (xs (x3 + (2 : Int32)).toNatClampNeg)]) (rest := []) ⟨hx, hb, hml, hown, hts⟩ (c_X6_sell l D cI cZ cW Z Y H.size (xs (x3 + (1 : Int32)).toNatClampNeg) (xs (x3 + (2 : Int32)).toNatClampNeg) S a _ hf) ⟨callB_of 2 hts (gT tw_459) rfl rfl rfl (ht _ tw_1) (ht _ tw_456) hd_X6_sell ⟨Nat.le_of_ble_eq_true rfl, Nat.le_of_ble_eq_true rfl⟩, ht _ tw_457, ht _ tw_458⟩ ⟨PW_blind, va_recv hK hPc (ci := 4) (q0 := 0) rfl eX_0, fun U hU hW => PW_mk hPc hDc hK hU hW⟩ rfl rfl hl.1 rfl (lv_room (Nat.le_of_ble_eq_true rfl)) dL_law_415 ⟨Nat.le_of_ble_eq_true rfl, Nat.le_of_ble_eq_true rfl⟩) hS (fun q _ h => hFc q h) hFc (fun r_95 u t H1 locs ht1 hvm hf hB hz1 hk1 hS => ?_)
                              obtain ⟨S_96, a_97⟩ := u
                              dsimp only at hf hB
                              rw [ht1] at hB
                              have hP := cjP hP hD hk1 hB
                              have hD : va_D A ((XW cI cZ cW Z Y (Z 1 0) (Z 2 0) S_96 a_97) ++ wM cI cZ q9 s9) := D_L hD
                              generalize H1 = H at hP hS ⊢
                              refine W.eq (g2 := F0 m 418 ls [.int r_95]) rfl ?_
                              refine lv_pop hx hb dL_law_418 rfl ?_
                              refine lv_aload_n hx hb dL_law_419 rfl (lv_at hl 2 rfl) ?_
                              refine lv_aload_n hx hb dL_law_420 rfl (lv_at hl 0 rfl) ?_
                              refine lv_iload_n hx hb dL_law_421 rfl (lv_at hl 3 rfl) ?_
                              refine lv_iconst (v := (1 : Int32)) hx hb dL_law_422 (by decide) ?_
                              refine lv_iadd hx hb dL_law_423 ?_
                              obtain ⟨hi_98, hf⟩ := hf
                              refine va_sld hx hb hX hbl hbA hS hi_98 dL_law_424 ?_
                              refine lv_aload_n hx hb dL_law_425 rfl (lv_at hl 0 rfl) ?_
                              refine lv_iload_n hx hb dL_law_426 rfl (lv_at hl 3 rfl) ?_
                              refine lv_iconst (v := (2 : Int32)) hx hb dL_law_427 (by decide) ?_
                              refine lv_iadd hx hb dL_law_428 ?_
                              obtain ⟨hi_99, hf⟩ := hf
                              refine va_sld hx hb hX hbl hbA hS hi_99 dL_law_429 ?_
                              have hPc : va_P D classes (wM cI cZ q9 s9) H := P_suf hP
                              have hDc : va_D A (wM cI cZ q9 s9) := D_suf hD
                              have hFc := va_freeX hDc hS hA
                              refine va_calli (va_runV (As := [.int (xs (x3 + (1 : Int32)).toNatClampNeg), .int (xs (x3 + (2 : Int32)).toNatClampNeg)]) (rest := []) ⟨hx, hb, hml, hown, hts⟩ (c_X7_sell l D cI cZ cW q9 H.size (xs (x3 + (1 : Int32)).toNatClampNeg) (xs (x3 + (2 : Int32)).toNatClampNeg) s9 _ hf) ⟨callB_of 2 hts (gT tw_888) rfl rfl rfl (ht _ tw_7) (ht _ tw_885) hd_X7_sell ⟨Nat.le_of_ble_eq_true rfl, Nat.le_of_ble_eq_true rfl⟩, ht _ tw_886, ht _ tw_887⟩ ⟨PW_blind, va_recv hK hPc (ci := 5) (q0 := 0) rfl eM_0, fun U hU hW => PW_mk hPc hDc hK hU hW⟩ rfl rfl hl.1 rfl (lv_room (Nat.le_of_ble_eq_true rfl)) dL_law_430 ⟨Nat.le_of_ble_eq_true rfl, Nat.le_of_ble_eq_true rfl⟩) hS (fun q _ h => hFc q h) hFc (fun r_100 u t H1 locs ht1 hvm hf hB hz1 hk1 hS => ?_)
                              obtain ⟨s9_101, rfl⟩ : ∃ z, z = u := ⟨_, rfl⟩
                              rw [ht1] at hB
                              have hP := cjT hP hD hk1 hB
                              have hD : va_D A ((XW cI cZ cW Z Y (Z 1 0) (Z 2 0) S_96 a_97) ++ wM cI cZ q9 s9_101) := D_L hD
                              generalize H1 = H at hP hS ⊢
                              refine W.eq (g2 := F0 m 433 ls [.int r_100]) rfl ?_
                              refine lv_pop hx hb dL_law_433 rfl ?_
                              refine lv_goto (tgt := 1073) hx hb dL_law_434 (by decide) ?_
                              exact k_1073 x3 Z S_96 a_97 s9_101 H locs ls hf hP hD hS (lv_sub hl [0, 1, 2, 3] rfl)
                            · have hf := hf.2 c_92
                              by_cases c_102 : ((xs x3.toNatClampNeg) &&& (31 : Int32)) = (11 : Int32)
                              · have hf := hf.1 c_102
                                refine lv_tableIn (off := 405) (tgt := 437) hx hb dL_law_32 (by rw [c_102]; decide) (by rw [c_102]; decide) (by rw [c_102]; first | done | rfl) (by decide) ?_
                                refine lv_aload_n hx hb dL_law_437 rfl (lv_at hl 1 rfl) ?_
                                have hPc : va_P D classes (XW cI cZ cW Z Y (Z 1 0) (Z 2 0) S a) H := P_pre hP
                                have hDc : va_D A (XW cI cZ cW Z Y (Z 1 0) (Z 2 0) S a) := D_pre hD
                                have hFc := va_freeX hDc hS hA
                                refine va_calli (va_runV (As := []) (rest := []) ⟨hx, hb, hml, hown, hts⟩ (c_X6_undo l D cI cZ cW Z Y H.size S a _ hf) ⟨callB_of 0 hts (gT tw_468) rfl rfl rfl (ht _ tw_1) (ht _ tw_465) hd_X6_undo ⟨Nat.le_of_ble_eq_true rfl, Nat.le_of_ble_eq_true rfl⟩, ht _ tw_466, ht _ tw_467⟩ ⟨PW_blind, va_recv hK hPc (ci := 4) (q0 := 0) rfl eX_0, fun U hU hW => PW_mk hPc hDc hK hU hW⟩ rfl rfl hl.1 rfl (lv_room (Nat.le_of_ble_eq_true rfl)) dL_law_438 ⟨Nat.le_of_ble_eq_true rfl, Nat.le_of_ble_eq_true rfl⟩) hS (fun q _ h => hFc q h) hFc (fun r_103 u t H1 locs ht1 hvm hf hB hz1 hk1 hS => ?_)
                                obtain ⟨S_104, a_105⟩ := u
                                dsimp only at hf hB
                                rw [ht1] at hB
                                have hP := cjP hP hD hk1 hB
                                have hD : va_D A ((XW cI cZ cW Z Y (Z 1 0) (Z 2 0) S_104 a_105) ++ wM cI cZ q9 s9) := D_L hD
                                generalize H1 = H at hP hS ⊢
                                refine W.eq (g2 := F0 m 441 ls [.int r_103]) rfl ?_
                                refine lv_pop hx hb dL_law_441 rfl ?_
                                refine lv_aload_n hx hb dL_law_442 rfl (lv_at hl 2 rfl) ?_
                                have hPc : va_P D classes (wM cI cZ q9 s9) H := P_suf hP
                                have hDc : va_D A (wM cI cZ q9 s9) := D_suf hD
                                have hFc := va_freeX hDc hS hA
                                refine va_calli (va_runV (As := []) (rest := []) ⟨hx, hb, hml, hown, hts⟩ (c_X7_undo l D cI cZ cW q9 H.size s9 _ hf) ⟨callB_of 0 hts (gT tw_900) rfl rfl rfl (ht _ tw_7) (ht _ tw_897) hd_X7_undo ⟨Nat.le_of_ble_eq_true rfl, Nat.le_of_ble_eq_true rfl⟩, ht _ tw_898, ht _ tw_899⟩ ⟨PW_blind, va_recv hK hPc (ci := 5) (q0 := 0) rfl eM_0, fun U hU hW => PW_mk hPc hDc hK hU hW⟩ rfl rfl hl.1 rfl (lv_room (Nat.le_of_ble_eq_true rfl)) dL_law_443 ⟨Nat.le_of_ble_eq_true rfl, Nat.le_of_ble_eq_true rfl⟩) hS (fun q _ h => hFc q h) hFc (fun r_106 u t H1 locs ht1 hvm hf hB hz1 hk1 hS => ?_)
                                obtain ⟨s9_107, rfl⟩ : ∃ z, z = u := ⟨_, rfl⟩
                                rw [ht1] at hB
                                have hP := cjT hP hD hk1 hB
                                have hD : va_D A ((XW cI cZ cW Z Y (Z 1 0) (Z 2 0) S_104 a_105) ++ wM cI cZ q9 s9_107) := D_L hD
                                generalize H1 = H at hP hS ⊢
                                refine W.eq (g2 := F0 m 446 ls [.int r_106]) rfl ?_
                                refine lv_pop hx hb dL_law_446 rfl ?_
                                refine lv_goto (tgt := 1073) hx hb dL_law_447 (by decide) ?_
                                exact k_1073 x3 Z S_104 a_105 s9_107 H locs ls hf hP hD hS (lv_sub hl [0, 1, 2, 3] rfl)
                              · have hf := hf.2 c_102
                                by_cases c_108 : ((xs x3.toNatClampNeg) &&& (31 : Int32)) = (12 : Int32)
                                · have hf := hf.1 c_108
                                  refine lv_tableIn (off := 418) (tgt := 450) hx hb dL_law_32 (by rw [c_108]; decide) (by rw [c_108]; decide) (by rw [c_108]; first | done | rfl) (by decide) ?_
                                  refine lv_aload_n hx hb dL_law_450 rfl (lv_at hl 1 rfl) ?_
                                  refine lv_aload_n hx hb dL_law_451 rfl (lv_at hl 0 rfl) ?_
                                  refine lv_iload_n hx hb dL_law_452 rfl (lv_at hl 3 rfl) ?_
                                  refine lv_iconst (v := (1 : Int32)) hx hb dL_law_453 (by decide) ?_
                                  refine lv_iadd hx hb dL_law_454 ?_
                                  obtain ⟨hi_109, hf⟩ := hf
                                  refine va_sld hx hb hX hbl hbA hS hi_109 dL_law_455 ?_
                                  refine lv_aload_n hx hb dL_law_456 rfl (lv_at hl 0 rfl) ?_
                                  refine lv_iload_n hx hb dL_law_457 rfl (lv_at hl 3 rfl) ?_
                                  refine lv_iconst (v := (2 : Int32)) hx hb dL_law_458 (by decide) ?_
                                  refine lv_iadd hx hb dL_law_459 ?_
                                  obtain ⟨hi_110, hf⟩ := hf
                                  refine va_sld hx hb hX hbl hbA hS hi_110 dL_law_460 ?_
                                  have hPc : va_P D classes (XW cI cZ cW Z Y (Z 1 0) (Z 2 0) S a) H := P_pre hP
                                  refine vp_callSi (W.runV (As := [.int (xs (x3 + (1 : Int32)).toNatClampNeg), .int (xs (x3 + (2 : Int32)).toNatClampNeg)]) (rest := []) ⟨hx, hb, hml, hown, hts⟩ (c_X6_way l D cI cZ cW Z Y (xs (x3 + (1 : Int32)).toNatClampNeg) (xs (x3 + (2 : Int32)).toNatClampNeg) S a _ hf) ⟨callB_of 2 hts (gT tw_476) rfl rfl rfl (ht _ tw_1) (ht _ tw_473) hd_X6_way ⟨Nat.le_of_ble_eq_true rfl, Nat.le_of_ble_eq_true rfl⟩, ht _ tw_474, ht _ tw_475⟩ ⟨PR_blind, va_recv hK hPc (ci := 4) (q0 := 0) rfl eX_0, fun U hU hW => PR_mk hPc hK hU hW⟩ rfl rfl hl.1 rfl (lv_room (Nat.le_of_ble_eq_true rfl)) dL_law_461 ⟨Nat.le_of_ble_eq_true rfl, Nat.le_of_ble_eq_true rfl⟩) (fun r_111 hf => ?_)
                                  refine lv_pop hx hb dL_law_464 rfl ?_
                                  refine lv_aload_n hx hb dL_law_465 rfl (lv_at hl 2 rfl) ?_
                                  refine lv_aload_n hx hb dL_law_466 rfl (lv_at hl 0 rfl) ?_
                                  refine lv_iload_n hx hb dL_law_467 rfl (lv_at hl 3 rfl) ?_
                                  refine lv_iconst (v := (1 : Int32)) hx hb dL_law_468 (by decide) ?_
                                  refine lv_iadd hx hb dL_law_469 ?_
                                  obtain ⟨hi_112, hf⟩ := hf
                                  refine va_sld hx hb hX hbl hbA hS hi_112 dL_law_470 ?_
                                  refine lv_aload_n hx hb dL_law_471 rfl (lv_at hl 0 rfl) ?_
                                  refine lv_iload_n hx hb dL_law_472 rfl (lv_at hl 3 rfl) ?_
                                  refine lv_iconst (v := (2 : Int32)) hx hb dL_law_473 (by decide) ?_
                                  refine lv_iadd hx hb dL_law_474 ?_
                                  obtain ⟨hi_113, hf⟩ := hf
                                  refine va_sld hx hb hX hbl hbA hS hi_113 dL_law_475 ?_
                                  have hPc : va_P D classes (wM cI cZ q9 s9) H := P_suf hP
                                  refine vp_callSi (W.runV (As := [.int (xs (x3 + (1 : Int32)).toNatClampNeg), .int (xs (x3 + (2 : Int32)).toNatClampNeg)]) (rest := []) ⟨hx, hb, hml, hown, hts⟩ (c_X7_way l D cI cZ cW q9 (xs (x3 + (1 : Int32)).toNatClampNeg) (xs (x3 + (2 : Int32)).toNatClampNeg) s9 _ hf) ⟨callB_of 2 hts (gT tw_904) rfl rfl rfl (ht _ tw_7) (ht _ tw_901) hd_X7_way ⟨Nat.le_of_ble_eq_true rfl, Nat.le_of_ble_eq_true rfl⟩, ht _ tw_902, ht _ tw_903⟩ ⟨PR_blind, va_recv hK hPc (ci := 5) (q0 := 0) rfl eM_0, fun U hU hW => PR_mk hPc hK hU hW⟩ rfl rfl hl.1 rfl (lv_room (Nat.le_of_ble_eq_true rfl)) dL_law_476 ⟨Nat.le_of_ble_eq_true rfl, Nat.le_of_ble_eq_true rfl⟩) (fun r_114 hf => ?_)
                                  refine lv_pop hx hb dL_law_479 rfl ?_
                                  refine lv_goto (tgt := 1073) hx hb dL_law_480 (by decide) ?_
                                  exact k_1073 x3 Z S a s9 H locs ls hf hP hD hS (lv_sub hl [0, 1, 2, 3] rfl)
                                · have hf := hf.2 c_108
                                  by_cases c_115 : ((xs x3.toNatClampNeg) &&& (31 : Int32)) = (13 : Int32)
                                  · have hf := hf.1 c_115
                                    refine lv_tableIn (off := 451) (tgt := 483) hx hb dL_law_32 (by rw [c_115]; decide) (by rw [c_115]; decide) (by rw [c_115]; first | done | rfl) (by decide) ?_
                                    refine lv_aload_n hx hb dL_law_483 rfl (lv_at hl 1 rfl) ?_
                                    refine lv_aload_n hx hb dL_law_484 rfl (lv_at hl 0 rfl) ?_
                                    refine lv_iload_n hx hb dL_law_485 rfl (lv_at hl 3 rfl) ?_
                                    refine lv_iconst (v := (1 : Int32)) hx hb dL_law_486 (by decide) ?_
                                    refine lv_iadd hx hb dL_law_487 ?_
                                    obtain ⟨hi_116, hf⟩ := hf
                                    refine va_sld hx hb hX hbl hbA hS hi_116 dL_law_488 ?_
                                    refine lv_aload_n hx hb dL_law_489 rfl (lv_at hl 0 rfl) ?_
                                    refine lv_iload_n hx hb dL_law_490 rfl (lv_at hl 3 rfl) ?_
                                    refine lv_iconst (v := (2 : Int32)) hx hb dL_law_491 (by decide) ?_
                                    refine lv_iadd hx hb dL_law_492 ?_
                                    obtain ⟨hi_117, hf⟩ := hf
                                    refine va_sld hx hb hX hbl hbA hS hi_117 dL_law_493 ?_
                                    have hPc : va_P D classes (XW cI cZ cW Z Y (Z 1 0) (Z 2 0) S a) H := P_pre hP
                                    refine vp_callSi (W.runV (As := [.int (xs (x3 + (1 : Int32)).toNatClampNeg), .int (xs (x3 + (2 : Int32)).toNatClampNeg)]) (rest := []) ⟨hx, hb, hml, hown, hts⟩ (c_X6_gnaw l D cI cZ cW Z Y (xs (x3 + (1 : Int32)).toNatClampNeg) (xs (x3 + (2 : Int32)).toNatClampNeg) S a _ hf) ⟨callB_of 2 hts (gT tw_489) rfl rfl rfl (ht _ tw_1) (ht _ tw_486) hd_X6_gnaw ⟨Nat.le_of_ble_eq_true rfl, Nat.le_of_ble_eq_true rfl⟩, ht _ tw_487, ht _ tw_488⟩ ⟨PR_blind, va_recv hK hPc (ci := 4) (q0 := 0) rfl eX_0, fun U hU hW => PR_mk hPc hK hU hW⟩ rfl rfl hl.1 rfl (lv_room (Nat.le_of_ble_eq_true rfl)) dL_law_494 ⟨Nat.le_of_ble_eq_true rfl, Nat.le_of_ble_eq_true rfl⟩) (fun r_118 hf => ?_)
                                    refine lv_pop hx hb dL_law_497 rfl ?_
                                    refine lv_aload_n hx hb dL_law_498 rfl (lv_at hl 2 rfl) ?_
                                    refine lv_aload_n hx hb dL_law_499 rfl (lv_at hl 0 rfl) ?_
                                    refine lv_iload_n hx hb dL_law_500 rfl (lv_at hl 3 rfl) ?_
                                    refine lv_iconst (v := (1 : Int32)) hx hb dL_law_501 (by decide) ?_
                                    refine lv_iadd hx hb dL_law_502 ?_
                                    obtain ⟨hi_119, hf⟩ := hf
                                    refine va_sld hx hb hX hbl hbA hS hi_119 dL_law_503 ?_
                                    refine lv_aload_n hx hb dL_law_504 rfl (lv_at hl 0 rfl) ?_
                                    refine lv_iload_n hx hb dL_law_505 rfl (lv_at hl 3 rfl) ?_
                                    refine lv_iconst (v := (2 : Int32)) hx hb dL_law_506 (by decide) ?_
                                    refine lv_iadd hx hb dL_law_507 ?_
                                    obtain ⟨hi_120, hf⟩ := hf
                                    refine va_sld hx hb hX hbl hbA hS hi_120 dL_law_508 ?_
                                    have hPc : va_P D classes (wM cI cZ q9 s9) H := P_suf hP
                                    have hDc : va_D A (wM cI cZ q9 s9) := D_suf hD
                                    have hFc := va_freeX hDc hS hA
                                    refine va_calli (va_runV (As := [.int (xs (x3 + (1 : Int32)).toNatClampNeg), .int (xs (x3 + (2 : Int32)).toNatClampNeg)]) (rest := []) ⟨hx, hb, hml, hown, hts⟩ (c_X7_gnaw l D cI cZ cW q9 H.size (xs (x3 + (1 : Int32)).toNatClampNeg) (xs (x3 + (2 : Int32)).toNatClampNeg) s9 _ hf) ⟨callB_of 2 hts (gT tw_911) rfl rfl rfl (ht _ tw_7) (ht _ tw_908) hd_X7_gnaw ⟨Nat.le_of_ble_eq_true rfl, Nat.le_of_ble_eq_true rfl⟩, ht _ tw_909, ht _ tw_910⟩ ⟨PW_blind, va_recv hK hPc (ci := 5) (q0 := 0) rfl eM_0, fun U hU hW => PW_mk hPc hDc hK hU hW⟩ rfl rfl hl.1 rfl (lv_room (Nat.le_of_ble_eq_true rfl)) dL_law_509 ⟨Nat.le_of_ble_eq_true rfl, Nat.le_of_ble_eq_true rfl⟩) hS (fun q _ h => hFc q h) hFc (fun r_121 u t H1 locs ht1 hvm hf hB hz1 hk1 hS => ?_)
                                    obtain ⟨s9_122, rfl⟩ : ∃ z, z = u := ⟨_, rfl⟩
                                    rw [ht1] at hB
                                    have hP := cjT hP hD hk1 hB
                                    have hD : va_D A ((XW cI cZ cW Z Y (Z 1 0) (Z 2 0) S a) ++ wM cI cZ q9 s9_122) := D_L hD
                                    generalize H1 = H at hP hS ⊢
                                    refine W.eq (g2 := F0 m 512 ls [.int r_121]) rfl ?_
                                    refine lv_pop hx hb dL_law_512 rfl ?_
                                    refine lv_goto (tgt := 1073) hx hb dL_law_513 (by decide) ?_
                                    exact k_1073 x3 Z S a s9_122 H locs ls hf hP hD hS (lv_sub hl [0, 1, 2, 3] rfl)
                                  · have hf := hf.2 c_115
                                    by_cases c_123 : ((xs x3.toNatClampNeg) &&& (31 : Int32)) = (14 : Int32)
                                    · have hf := hf.1 c_123
                                      refine lv_tableIn (off := 484) (tgt := 516) hx hb dL_law_32 (by rw [c_123]; decide) (by rw [c_123]; decide) (by rw [c_123]; first | done | rfl) (by decide) ?_
                                      refine lv_aload_n hx hb dL_law_516 rfl (lv_at hl 1 rfl) ?_
                                      refine lv_aload_n hx hb dL_law_517 rfl (lv_at hl 0 rfl) ?_
                                      refine lv_iload_n hx hb dL_law_518 rfl (lv_at hl 3 rfl) ?_
                                      refine lv_iconst (v := (1 : Int32)) hx hb dL_law_519 (by decide) ?_
                                      refine lv_iadd hx hb dL_law_520 ?_
                                      obtain ⟨hi_124, hf⟩ := hf
                                      refine va_sld hx hb hX hbl hbA hS hi_124 dL_law_521 ?_
                                      refine lv_aload_n hx hb dL_law_522 rfl (lv_at hl 0 rfl) ?_
                                      refine lv_iload_n hx hb dL_law_523 rfl (lv_at hl 3 rfl) ?_
                                      refine lv_iconst (v := (2 : Int32)) hx hb dL_law_524 (by decide) ?_
                                      refine lv_iadd hx hb dL_law_525 ?_
                                      obtain ⟨hi_125, hf⟩ := hf
                                      refine va_sld hx hb hX hbl hbA hS hi_125 dL_law_526 ?_
                                      have hPc : va_P D classes (XW cI cZ cW Z Y (Z 1 0) (Z 2 0) S a) H := P_pre hP
                                      have hDc : va_D A (XW cI cZ cW Z Y (Z 1 0) (Z 2 0) S a) := D_pre hD
                                      have hFc := va_freeX hDc hS hA
                                      refine va_calli (va_runV (As := [.int (xs (x3 + (1 : Int32)).toNatClampNeg), .int (xs (x3 + (2 : Int32)).toNatClampNeg)]) (rest := []) ⟨hx, hb, hml, hown, hts⟩ (c_X6_wedding l D cI cZ cW Z Y H.size (xs (x3 + (1 : Int32)).toNatClampNeg) (xs (x3 + (2 : Int32)).toNatClampNeg) S a _ hf) ⟨callB_of 2 hts (gT tw_500) rfl rfl rfl (ht _ tw_1) (ht _ tw_497) hd_X6_wedding ⟨Nat.le_of_ble_eq_true rfl, Nat.le_of_ble_eq_true rfl⟩, ht _ tw_498, ht _ tw_499⟩ ⟨PW_blind, va_recv hK hPc (ci := 4) (q0 := 0) rfl eX_0, fun U hU hW => PW_mk hPc hDc hK hU hW⟩ rfl rfl hl.1 rfl (lv_room (Nat.le_of_ble_eq_true rfl)) dL_law_527 ⟨Nat.le_of_ble_eq_true rfl, Nat.le_of_ble_eq_true rfl⟩) hS (fun q _ h => hFc q h) hFc (fun r_126 u t H1 locs ht1 hvm hf hB hz1 hk1 hS => ?_)
                                      obtain ⟨S_127, a_128⟩ := u
                                      dsimp only at hf hB
                                      rw [ht1] at hB
                                      have hP := cjP hP hD hk1 hB
                                      have hD : va_D A ((XW cI cZ cW Z Y (Z 1 0) (Z 2 0) S_127 a_128) ++ wM cI cZ q9 s9) := D_L hD
                                      generalize H1 = H at hP hS ⊢
                                      refine W.eq (g2 := F0 m 530 ls [.int r_126]) rfl ?_
                                      refine lv_pop hx hb dL_law_530 rfl ?_
                                      refine lv_aload_n hx hb dL_law_531 rfl (lv_at hl 2 rfl) ?_
                                      refine lv_aload_n hx hb dL_law_532 rfl (lv_at hl 0 rfl) ?_
                                      refine lv_iload_n hx hb dL_law_533 rfl (lv_at hl 3 rfl) ?_
                                      refine lv_iconst (v := (1 : Int32)) hx hb dL_law_534 (by decide) ?_
                                      refine lv_iadd hx hb dL_law_535 ?_
                                      obtain ⟨hi_129, hf⟩ := hf
                                      refine va_sld hx hb hX hbl hbA hS hi_129 dL_law_536 ?_
                                      refine lv_aload_n hx hb dL_law_537 rfl (lv_at hl 0 rfl) ?_
                                      refine lv_iload_n hx hb dL_law_538 rfl (lv_at hl 3 rfl) ?_
                                      refine lv_iconst (v := (2 : Int32)) hx hb dL_law_539 (by decide) ?_
                                      refine lv_iadd hx hb dL_law_540 ?_
                                      obtain ⟨hi_130, hf⟩ := hf
                                      refine va_sld hx hb hX hbl hbA hS hi_130 dL_law_541 ?_
                                      have hPc : va_P D classes (wM cI cZ q9 s9) H := P_suf hP
                                      have hDc : va_D A (wM cI cZ q9 s9) := D_suf hD
                                      have hFc := va_freeX hDc hS hA
                                      refine va_calli (va_runV (As := [.int (xs (x3 + (1 : Int32)).toNatClampNeg), .int (xs (x3 + (2 : Int32)).toNatClampNeg)]) (rest := []) ⟨hx, hb, hml, hown, hts⟩ (c_X7_wedding l D cI cZ cW q9 H.size (xs (x3 + (1 : Int32)).toNatClampNeg) (xs (x3 + (2 : Int32)).toNatClampNeg) s9 _ hf) ⟨callB_of 2 hts (gT tw_923) rfl rfl rfl (ht _ tw_7) (ht _ tw_920) hd_X7_wedding ⟨Nat.le_of_ble_eq_true rfl, Nat.le_of_ble_eq_true rfl⟩, ht _ tw_921, ht _ tw_922⟩ ⟨PW_blind, va_recv hK hPc (ci := 5) (q0 := 0) rfl eM_0, fun U hU hW => PW_mk hPc hDc hK hU hW⟩ rfl rfl hl.1 rfl (lv_room (Nat.le_of_ble_eq_true rfl)) dL_law_542 ⟨Nat.le_of_ble_eq_true rfl, Nat.le_of_ble_eq_true rfl⟩) hS (fun q _ h => hFc q h) hFc (fun r_131 u t H1 locs ht1 hvm hf hB hz1 hk1 hS => ?_)
                                      obtain ⟨s9_132, rfl⟩ : ∃ z, z = u := ⟨_, rfl⟩
                                      rw [ht1] at hB
                                      have hP := cjT hP hD hk1 hB
                                      have hD : va_D A ((XW cI cZ cW Z Y (Z 1 0) (Z 2 0) S_127 a_128) ++ wM cI cZ q9 s9_132) := D_L hD
                                      generalize H1 = H at hP hS ⊢
                                      refine W.eq (g2 := F0 m 545 ls [.int r_131]) rfl ?_
                                      refine lv_pop hx hb dL_law_545 rfl ?_
                                      refine lv_goto (tgt := 1073) hx hb dL_law_546 (by decide) ?_
                                      exact k_1073 x3 Z S_127 a_128 s9_132 H locs ls hf hP hD hS (lv_sub hl [0, 1, 2, 3] rfl)
                                    · have hf := hf.2 c_123
                                      by_cases c_133 : ((xs x3.toNatClampNeg) &&& (31 : Int32)) = (15 : Int32)
                                      · have hf := hf.1 c_133
                                        refine lv_tableIn (off := 517) (tgt := 549) hx hb dL_law_32 (by rw [c_133]; decide) (by rw [c_133]; decide) (by rw [c_133]; first | done | rfl) (by decide) ?_
                                        refine lv_aload_n hx hb dL_law_549 rfl (lv_at hl 1 rfl) ?_
                                        refine lv_aload_n hx hb dL_law_550 rfl (lv_at hl 0 rfl) ?_
                                        refine lv_iload_n hx hb dL_law_551 rfl (lv_at hl 3 rfl) ?_
                                        refine lv_iconst (v := (1 : Int32)) hx hb dL_law_552 (by decide) ?_
                                        refine lv_iadd hx hb dL_law_553 ?_
                                        obtain ⟨hi_134, hf⟩ := hf
                                        refine va_sld hx hb hX hbl hbA hS hi_134 dL_law_554 ?_
                                        refine lv_aload_n hx hb dL_law_555 rfl (lv_at hl 0 rfl) ?_
                                        refine lv_iload_n hx hb dL_law_556 rfl (lv_at hl 3 rfl) ?_
                                        refine lv_iconst (v := (2 : Int32)) hx hb dL_law_557 (by decide) ?_
                                        refine lv_iadd hx hb dL_law_558 ?_
                                        obtain ⟨hi_135, hf⟩ := hf
                                        refine va_sld hx hb hX hbl hbA hS hi_135 dL_law_559 ?_
                                        have hPc : va_P D classes (XW cI cZ cW Z Y (Z 1 0) (Z 2 0) S a) H := P_pre hP
                                        have hDc : va_D A (XW cI cZ cW Z Y (Z 1 0) (Z 2 0) S a) := D_pre hD
                                        have hFc := va_freeX hDc hS hA
                                        refine va_calli (va_runV (As := [.int (xs (x3 + (1 : Int32)).toNatClampNeg), .int (xs (x3 + (2 : Int32)).toNatClampNeg)]) (rest := []) ⟨hx, hb, hml, hown, hts⟩ (c_X6_ahead l D cI cZ cW Z Y H.size (xs (x3 + (1 : Int32)).toNatClampNeg) (xs (x3 + (2 : Int32)).toNatClampNeg) S a _ hf) ⟨callB_of 2 hts (gT tw_506) rfl rfl rfl (ht _ tw_1) (ht _ tw_503) hd_X6_ahead ⟨Nat.le_of_ble_eq_true rfl, Nat.le_of_ble_eq_true rfl⟩, ht _ tw_504, ht _ tw_505⟩ ⟨PW_blind, va_recv hK hPc (ci := 4) (q0 := 0) rfl eX_0, fun U hU hW => PW_mk hPc hDc hK hU hW⟩ rfl rfl hl.1 rfl (lv_room (Nat.le_of_ble_eq_true rfl)) dL_law_560 ⟨Nat.le_of_ble_eq_true rfl, Nat.le_of_ble_eq_true rfl⟩) hS (fun q _ h => hFc q h) hFc (fun r_136 u t H1 locs ht1 hvm hf hB hz1 hk1 hS => ?_)
                                        obtain ⟨S_137, a_138⟩ := u
                                        dsimp only at hf hB
                                        rw [ht1] at hB
                                        have hP := cjP hP hD hk1 hB
                                        have hD : va_D A ((XW cI cZ cW Z Y (Z 1 0) (Z 2 0) S_137 a_138) ++ wM cI cZ q9 s9) := D_L hD
                                        generalize H1 = H at hP hS ⊢
                                        refine W.eq (g2 := F0 m 563 ls [.int r_136]) rfl ?_
                                        refine lv_pop hx hb dL_law_563 rfl ?_
                                        refine lv_aload_n hx hb dL_law_564 rfl (lv_at hl 2 rfl) ?_
                                        refine lv_aload_n hx hb dL_law_565 rfl (lv_at hl 0 rfl) ?_
                                        refine lv_iload_n hx hb dL_law_566 rfl (lv_at hl 3 rfl) ?_
                                        refine lv_iconst (v := (1 : Int32)) hx hb dL_law_567 (by decide) ?_
                                        refine lv_iadd hx hb dL_law_568 ?_
                                        obtain ⟨hi_139, hf⟩ := hf
                                        refine va_sld hx hb hX hbl hbA hS hi_139 dL_law_569 ?_
                                        refine lv_aload_n hx hb dL_law_570 rfl (lv_at hl 0 rfl) ?_
                                        refine lv_iload_n hx hb dL_law_571 rfl (lv_at hl 3 rfl) ?_
                                        refine lv_iconst (v := (2 : Int32)) hx hb dL_law_572 (by decide) ?_
                                        refine lv_iadd hx hb dL_law_573 ?_
                                        obtain ⟨hi_140, hf⟩ := hf
                                        refine va_sld hx hb hX hbl hbA hS hi_140 dL_law_574 ?_
                                        have hPc : va_P D classes (wM cI cZ q9 s9) H := P_suf hP
                                        have hDc : va_D A (wM cI cZ q9 s9) := D_suf hD
                                        have hFc := va_freeX hDc hS hA
                                        refine va_calli (va_runV (As := [.int (xs (x3 + (1 : Int32)).toNatClampNeg), .int (xs (x3 + (2 : Int32)).toNatClampNeg)]) (rest := []) ⟨hx, hb, hml, hown, hts⟩ (c_X7_ahead l D cI cZ cW q9 H.size (xs (x3 + (1 : Int32)).toNatClampNeg) (xs (x3 + (2 : Int32)).toNatClampNeg) s9 _ hf) ⟨callB_of 2 hts (gT tw_931) rfl rfl rfl (ht _ tw_7) (ht _ tw_928) hd_X7_ahead ⟨Nat.le_of_ble_eq_true rfl, Nat.le_of_ble_eq_true rfl⟩, ht _ tw_929, ht _ tw_930⟩ ⟨PW_blind, va_recv hK hPc (ci := 5) (q0 := 0) rfl eM_0, fun U hU hW => PW_mk hPc hDc hK hU hW⟩ rfl rfl hl.1 rfl (lv_room (Nat.le_of_ble_eq_true rfl)) dL_law_575 ⟨Nat.le_of_ble_eq_true rfl, Nat.le_of_ble_eq_true rfl⟩) hS (fun q _ h => hFc q h) hFc (fun r_141 u t H1 locs ht1 hvm hf hB hz1 hk1 hS => ?_)
                                        obtain ⟨s9_142, rfl⟩ : ∃ z, z = u := ⟨_, rfl⟩
                                        rw [ht1] at hB
                                        have hP := cjT hP hD hk1 hB
                                        have hD : va_D A ((XW cI cZ cW Z Y (Z 1 0) (Z 2 0) S_137 a_138) ++ wM cI cZ q9 s9_142) := D_L hD
                                        generalize H1 = H at hP hS ⊢
                                        refine W.eq (g2 := F0 m 578 ls [.int r_141]) rfl ?_
                                        refine lv_pop hx hb dL_law_578 rfl ?_
                                        refine lv_goto (tgt := 1073) hx hb dL_law_579 (by decide) ?_
                                        exact k_1073 x3 Z S_137 a_138 s9_142 H locs ls hf hP hD hS (lv_sub hl [0, 1, 2, 3] rfl)
                                      · have hf := hf.2 c_133
                                        by_cases c_143 : ((xs x3.toNatClampNeg) &&& (31 : Int32)) = (16 : Int32)
                                        · have hf := hf.1 c_143
                                          refine lv_tableIn (off := 550) (tgt := 582) hx hb dL_law_32 (by rw [c_143]; decide) (by rw [c_143]; decide) (by rw [c_143]; first | done | rfl) (by decide) ?_
                                          refine lv_aload_n hx hb dL_law_582 rfl (lv_at hl 1 rfl) ?_
                                          refine lv_aload_n hx hb dL_law_583 rfl (lv_at hl 0 rfl) ?_
                                          refine lv_iload_n hx hb dL_law_584 rfl (lv_at hl 3 rfl) ?_
                                          refine lv_iconst (v := (1 : Int32)) hx hb dL_law_585 (by decide) ?_
                                          refine lv_iadd hx hb dL_law_586 ?_
                                          obtain ⟨hi_144, hf⟩ := hf
                                          refine va_sld hx hb hX hbl hbA hS hi_144 dL_law_587 ?_
                                          refine lv_aload_n hx hb dL_law_588 rfl (lv_at hl 0 rfl) ?_
                                          refine lv_iload_n hx hb dL_law_589 rfl (lv_at hl 3 rfl) ?_
                                          refine lv_iconst (v := (2 : Int32)) hx hb dL_law_590 (by decide) ?_
                                          refine lv_iadd hx hb dL_law_591 ?_
                                          obtain ⟨hi_145, hf⟩ := hf
                                          refine va_sld hx hb hX hbl hbA hS hi_145 dL_law_592 ?_
                                          refine lv_aload_n hx hb dL_law_593 rfl (lv_at hl 0 rfl) ?_
                                          refine lv_iload_n hx hb dL_law_594 rfl (lv_at hl 3 rfl) ?_
                                          refine lv_iconst (v := (3 : Int32)) hx hb dL_law_595 (by decide) ?_
                                          refine lv_iadd hx hb dL_law_596 ?_
                                          obtain ⟨hi_146, hf⟩ := hf
                                          refine va_sld hx hb hX hbl hbA hS hi_146 dL_law_597 ?_
                                          have hPc : va_P D classes (XW cI cZ cW Z Y (Z 1 0) (Z 2 0) S a) H := P_pre hP
                                          refine vp_callSi (W.runV (As := [.int (xs (x3 + (1 : Int32)).toNatClampNeg), .int (xs (x3 + (2 : Int32)).toNatClampNeg), .int (xs (x3 + (3 : Int32)).toNatClampNeg)]) (rest := []) ⟨hx, hb, hml, hown, hts⟩ (c_X6_cut l D cI cZ cW Z Y (xs (x3 + (1 : Int32)).toNatClampNeg) (xs (x3 + (2 : Int32)).toNatClampNeg) (xs (x3 + (3 : Int32)).toNatClampNeg) S a _ hf) ⟨callB_of 3 hts (gT tw_515) rfl rfl rfl (ht _ tw_1) (ht _ tw_512) hd_X6_cut ⟨Nat.le_of_ble_eq_true rfl, Nat.le_of_ble_eq_true rfl⟩, ht _ tw_513, ht _ tw_514⟩ ⟨PR_blind, va_recv hK hPc (ci := 4) (q0 := 0) rfl eX_0, fun U hU hW => PR_mk hPc hK hU hW⟩ rfl rfl hl.1 rfl (lv_room (Nat.le_of_ble_eq_true rfl)) dL_law_598 ⟨Nat.le_of_ble_eq_true rfl, Nat.le_of_ble_eq_true rfl⟩) (fun r_147 hf => ?_)
                                          refine lv_pop hx hb dL_law_601 rfl ?_
                                          refine lv_aload_n hx hb dL_law_602 rfl (lv_at hl 2 rfl) ?_
                                          refine lv_aload_n hx hb dL_law_603 rfl (lv_at hl 0 rfl) ?_
                                          refine lv_iload_n hx hb dL_law_604 rfl (lv_at hl 3 rfl) ?_
                                          refine lv_iconst (v := (1 : Int32)) hx hb dL_law_605 (by decide) ?_
                                          refine lv_iadd hx hb dL_law_606 ?_
                                          obtain ⟨hi_148, hf⟩ := hf
                                          refine va_sld hx hb hX hbl hbA hS hi_148 dL_law_607 ?_
                                          refine lv_aload_n hx hb dL_law_608 rfl (lv_at hl 0 rfl) ?_
                                          refine lv_iload_n hx hb dL_law_609 rfl (lv_at hl 3 rfl) ?_
                                          refine lv_iconst (v := (2 : Int32)) hx hb dL_law_610 (by decide) ?_
                                          refine lv_iadd hx hb dL_law_611 ?_
                                          obtain ⟨hi_149, hf⟩ := hf
                                          refine va_sld hx hb hX hbl hbA hS hi_149 dL_law_612 ?_
                                          refine lv_aload_n hx hb dL_law_613 rfl (lv_at hl 0 rfl) ?_
                                          refine lv_iload_n hx hb dL_law_614 rfl (lv_at hl 3 rfl) ?_
                                          refine lv_iconst (v := (3 : Int32)) hx hb dL_law_615 (by decide) ?_
                                          refine lv_iadd hx hb dL_law_616 ?_
                                          obtain ⟨hi_150, hf⟩ := hf
                                          refine va_sld hx hb hX hbl hbA hS hi_150 dL_law_617 ?_
                                          have hPc : va_P D classes (wM cI cZ q9 s9) H := P_suf hP
                                          refine vp_callSi (W.runV (As := [.int (xs (x3 + (1 : Int32)).toNatClampNeg), .int (xs (x3 + (2 : Int32)).toNatClampNeg), .int (xs (x3 + (3 : Int32)).toNatClampNeg)]) (rest := []) ⟨hx, hb, hml, hown, hts⟩ (c_X7_cut l D cI cZ cW q9 (xs (x3 + (1 : Int32)).toNatClampNeg) (xs (x3 + (2 : Int32)).toNatClampNeg) (xs (x3 + (3 : Int32)).toNatClampNeg) s9 _ hf) ⟨callB_of 3 hts (gT tw_940) rfl rfl rfl (ht _ tw_7) (ht _ tw_937) hd_X7_cut ⟨Nat.le_of_ble_eq_true rfl, Nat.le_of_ble_eq_true rfl⟩, ht _ tw_938, ht _ tw_939⟩ ⟨PR_blind, va_recv hK hPc (ci := 5) (q0 := 0) rfl eM_0, fun U hU hW => PR_mk hPc hK hU hW⟩ rfl rfl hl.1 rfl (lv_room (Nat.le_of_ble_eq_true rfl)) dL_law_618 ⟨Nat.le_of_ble_eq_true rfl, Nat.le_of_ble_eq_true rfl⟩) (fun r_151 hf => ?_)
                                          refine lv_pop hx hb dL_law_621 rfl ?_
                                          refine lv_goto (tgt := 1073) hx hb dL_law_622 (by decide) ?_
                                          exact k_1073 x3 Z S a s9 H locs ls hf hP hD hS (lv_sub hl [0, 1, 2, 3] rfl)
                                        · have hf := hf.2 c_143
                                          by_cases c_152 : ((xs x3.toNatClampNeg) &&& (31 : Int32)) = (17 : Int32)
                                          · have hf := hf.1 c_152
                                            refine lv_tableIn (off := 593) (tgt := 625) hx hb dL_law_32 (by rw [c_152]; decide) (by rw [c_152]; decide) (by rw [c_152]; first | done | rfl) (by decide) ?_
                                            refine lv_aload_n hx hb dL_law_625 rfl (lv_at hl 1 rfl) ?_
                                            refine lv_aload_n hx hb dL_law_626 rfl (lv_at hl 0 rfl) ?_
                                            refine lv_iload_n hx hb dL_law_627 rfl (lv_at hl 3 rfl) ?_
                                            refine lv_iconst (v := (1 : Int32)) hx hb dL_law_628 (by decide) ?_
                                            refine lv_iadd hx hb dL_law_629 ?_
                                            obtain ⟨hi_153, hf⟩ := hf
                                            refine va_sld hx hb hX hbl hbA hS hi_153 dL_law_630 ?_
                                            refine lv_aload_n hx hb dL_law_631 rfl (lv_at hl 0 rfl) ?_
                                            refine lv_iload_n hx hb dL_law_632 rfl (lv_at hl 3 rfl) ?_
                                            refine lv_iconst (v := (2 : Int32)) hx hb dL_law_633 (by decide) ?_
                                            refine lv_iadd hx hb dL_law_634 ?_
                                            obtain ⟨hi_154, hf⟩ := hf
                                            refine va_sld hx hb hX hbl hbA hS hi_154 dL_law_635 ?_
                                            refine lv_i2l (v := (xs (x3 + (2 : Int32)).toNatClampNeg).toInt64) hx hb dL_law_636 rfl ?_
                                            refine lv_bipush (v := (32 : Int32)) hx hb dL_law_637 (by decide) ?_
                                            refine lv_lshl (v := ((xs (x3 + (2 : Int32)).toNatClampNeg).toInt64 <<< ((32 : Int32).toInt64 &&& 63))) hx hb dL_law_639 rfl ?_
                                            refine lv_aload_n hx hb dL_law_640 rfl (lv_at hl 0 rfl) ?_
                                            refine lv_iload_n hx hb dL_law_641 rfl (lv_at hl 3 rfl) ?_
                                            refine lv_iconst (v := (3 : Int32)) hx hb dL_law_642 (by decide) ?_
                                            refine lv_iadd hx hb dL_law_643 ?_
                                            obtain ⟨hi_155, hf⟩ := hf
                                            refine va_sld hx hb hX hbl hbA hS hi_155 dL_law_644 ?_
                                            refine lv_i2l (v := (xs (x3 + (3 : Int32)).toNatClampNeg).toInt64) hx hb dL_law_645 rfl ?_
                                            refine lv_ldc2 (v := (4294967295 : Int64)) hx hb hown (ht _ tw_1026) dL_law_646 ?_
                                            refine lv_land hx hb dL_law_649 ?_
                                            refine lv_lor hx hb dL_law_650 ?_
                                            have hPc : va_P D classes (XW cI cZ cW Z Y (Z 1 0) (Z 2 0) S a) H := P_pre hP
                                            have hDc : va_D A (XW cI cZ cW Z Y (Z 1 0) (Z 2 0) S a) := D_pre hD
                                            have hFc := va_freeX hDc hS hA
                                            refine va_calli (va_runV (As := [.int (xs (x3 + (1 : Int32)).toNatClampNeg), .long (((xs (x3 + (2 : Int32)).toNatClampNeg).toInt64 <<< ((32 : Int32).toInt64 &&& 63)) ||| ((xs (x3 + (3 : Int32)).toNatClampNeg).toInt64 &&& (4294967295 : Int64)))]) (rest := []) ⟨hx, hb, hml, hown, hts⟩ (c_X6_judge l D cI cZ cW Z Y H.size (xs (x3 + (1 : Int32)).toNatClampNeg) (((xs (x3 + (2 : Int32)).toNatClampNeg).toInt64 <<< ((32 : Int32).toInt64 &&& 63)) ||| ((xs (x3 + (3 : Int32)).toNatClampNeg).toInt64 &&& (4294967295 : Int64))) S a _ hf) ⟨callB_of 2 hts (gT tw_522) rfl rfl rfl (ht _ tw_1) (ht _ tw_519) hd_X6_judge ⟨Nat.le_of_ble_eq_true rfl, Nat.le_of_ble_eq_true rfl⟩, ht _ tw_520, ht _ tw_521⟩ ⟨PW_blind, va_recv hK hPc (ci := 4) (q0 := 0) rfl eX_0, fun U hU hW => PW_mk hPc hDc hK hU hW⟩ rfl rfl hl.1 rfl (lv_room (Nat.le_of_ble_eq_true rfl)) dL_law_651 ⟨Nat.le_of_ble_eq_true rfl, Nat.le_of_ble_eq_true rfl⟩) hS (fun q _ h => hFc q h) hFc (fun r_156 u t H1 locs ht1 hvm hf hB hz1 hk1 hS => ?_)
                                            obtain ⟨S_157, a_158⟩ := u
                                            dsimp only at hf hB
                                            rw [ht1] at hB
                                            have hP := cjP hP hD hk1 hB
                                            have hD : va_D A ((XW cI cZ cW Z Y (Z 1 0) (Z 2 0) S_157 a_158) ++ wM cI cZ q9 s9) := D_L hD
                                            generalize H1 = H at hP hS ⊢
                                            refine W.eq (g2 := F0 m 654 ls [.int r_156]) rfl ?_
                                            refine lv_pop hx hb dL_law_654 rfl ?_
                                            refine lv_aload_n hx hb dL_law_655 rfl (lv_at hl 2 rfl) ?_
                                            refine lv_aload_n hx hb dL_law_656 rfl (lv_at hl 0 rfl) ?_
                                            refine lv_iload_n hx hb dL_law_657 rfl (lv_at hl 3 rfl) ?_
                                            refine lv_iconst (v := (1 : Int32)) hx hb dL_law_658 (by decide) ?_
                                            refine lv_iadd hx hb dL_law_659 ?_
                                            obtain ⟨hi_159, hf⟩ := hf
                                            refine va_sld hx hb hX hbl hbA hS hi_159 dL_law_660 ?_
                                            refine lv_aload_n hx hb dL_law_661 rfl (lv_at hl 0 rfl) ?_
                                            refine lv_iload_n hx hb dL_law_662 rfl (lv_at hl 3 rfl) ?_
                                            refine lv_iconst (v := (2 : Int32)) hx hb dL_law_663 (by decide) ?_
                                            refine lv_iadd hx hb dL_law_664 ?_
                                            obtain ⟨hi_160, hf⟩ := hf
                                            refine va_sld hx hb hX hbl hbA hS hi_160 dL_law_665 ?_
                                            refine lv_i2l (v := (xs (x3 + (2 : Int32)).toNatClampNeg).toInt64) hx hb dL_law_666 rfl ?_
                                            refine lv_bipush (v := (32 : Int32)) hx hb dL_law_667 (by decide) ?_
                                            refine lv_lshl (v := ((xs (x3 + (2 : Int32)).toNatClampNeg).toInt64 <<< ((32 : Int32).toInt64 &&& 63))) hx hb dL_law_669 rfl ?_
                                            refine lv_aload_n hx hb dL_law_670 rfl (lv_at hl 0 rfl) ?_
                                            refine lv_iload_n hx hb dL_law_671 rfl (lv_at hl 3 rfl) ?_
                                            refine lv_iconst (v := (3 : Int32)) hx hb dL_law_672 (by decide) ?_
                                            refine lv_iadd hx hb dL_law_673 ?_
                                            obtain ⟨hi_161, hf⟩ := hf
                                            refine va_sld hx hb hX hbl hbA hS hi_161 dL_law_674 ?_
                                            refine lv_i2l (v := (xs (x3 + (3 : Int32)).toNatClampNeg).toInt64) hx hb dL_law_675 rfl ?_
                                            refine lv_ldc2 (v := (4294967295 : Int64)) hx hb hown (ht _ tw_1026) dL_law_676 ?_
                                            refine lv_land hx hb dL_law_679 ?_
                                            refine lv_lor hx hb dL_law_680 ?_
                                            have hPc : va_P D classes (wM cI cZ q9 s9) H := P_suf hP
                                            have hDc : va_D A (wM cI cZ q9 s9) := D_suf hD
                                            have hFc := va_freeX hDc hS hA
                                            refine va_calli (va_runV (As := [.int (xs (x3 + (1 : Int32)).toNatClampNeg), .long (((xs (x3 + (2 : Int32)).toNatClampNeg).toInt64 <<< ((32 : Int32).toInt64 &&& 63)) ||| ((xs (x3 + (3 : Int32)).toNatClampNeg).toInt64 &&& (4294967295 : Int64)))]) (rest := []) ⟨hx, hb, hml, hown, hts⟩ (c_X7_judge l D cI cZ cW q9 H.size (xs (x3 + (1 : Int32)).toNatClampNeg) (((xs (x3 + (2 : Int32)).toNatClampNeg).toInt64 <<< ((32 : Int32).toInt64 &&& 63)) ||| ((xs (x3 + (3 : Int32)).toNatClampNeg).toInt64 &&& (4294967295 : Int64))) s9 _ hf) ⟨callB_of 2 hts (gT tw_944) rfl rfl rfl (ht _ tw_7) (ht _ tw_941) hd_X7_judge ⟨Nat.le_of_ble_eq_true rfl, Nat.le_of_ble_eq_true rfl⟩, ht _ tw_942, ht _ tw_943⟩ ⟨PW_blind, va_recv hK hPc (ci := 5) (q0 := 0) rfl eM_0, fun U hU hW => PW_mk hPc hDc hK hU hW⟩ rfl rfl hl.1 rfl (lv_room (Nat.le_of_ble_eq_true rfl)) dL_law_681 ⟨Nat.le_of_ble_eq_true rfl, Nat.le_of_ble_eq_true rfl⟩) hS (fun q _ h => hFc q h) hFc (fun r_162 u t H1 locs ht1 hvm hf hB hz1 hk1 hS => ?_)
                                            obtain ⟨s9_163, rfl⟩ : ∃ z, z = u := ⟨_, rfl⟩
                                            rw [ht1] at hB
                                            have hP := cjT hP hD hk1 hB
                                            have hD : va_D A ((XW cI cZ cW Z Y (Z 1 0) (Z 2 0) S_157 a_158) ++ wM cI cZ q9 s9_163) := D_L hD
                                            generalize H1 = H at hP hS ⊢
                                            refine W.eq (g2 := F0 m 684 ls [.int r_162]) rfl ?_
                                            refine lv_pop hx hb dL_law_684 rfl ?_
                                            refine lv_goto (tgt := 1073) hx hb dL_law_685 (by decide) ?_
                                            exact k_1073 x3 Z S_157 a_158 s9_163 H locs ls hf hP hD hS (lv_sub hl [0, 1, 2, 3] rfl)
                                          · have hf := hf.2 c_152
                                            by_cases c_164 : ((xs x3.toNatClampNeg) &&& (31 : Int32)) = (18 : Int32)
                                            · have hf := hf.1 c_164
                                              refine lv_tableIn (off := 656) (tgt := 688) hx hb dL_law_32 (by rw [c_164]; decide) (by rw [c_164]; decide) (by rw [c_164]; first | done | rfl) (by decide) ?_
                                              refine lv_aload_n hx hb dL_law_688 rfl (lv_at hl 1 rfl) ?_
                                              refine lv_aload_n hx hb dL_law_689 rfl (lv_at hl 0 rfl) ?_
                                              refine lv_iload_n hx hb dL_law_690 rfl (lv_at hl 3 rfl) ?_
                                              refine lv_iconst (v := (1 : Int32)) hx hb dL_law_691 (by decide) ?_
                                              refine lv_iadd hx hb dL_law_692 ?_
                                              obtain ⟨hi_165, hf⟩ := hf
                                              refine va_sld hx hb hX hbl hbA hS hi_165 dL_law_693 ?_
                                              refine lv_aload_n hx hb dL_law_694 rfl (lv_at hl 0 rfl) ?_
                                              refine lv_iload_n hx hb dL_law_695 rfl (lv_at hl 3 rfl) ?_
                                              refine lv_iconst (v := (2 : Int32)) hx hb dL_law_696 (by decide) ?_
                                              refine lv_iadd hx hb dL_law_697 ?_
                                              obtain ⟨hi_166, hf⟩ := hf
                                              refine va_sld hx hb hX hbl hbA hS hi_166 dL_law_698 ?_
                                              refine lv_aload_n hx hb dL_law_699 rfl (lv_at hl 0 rfl) ?_
                                              refine lv_iload_n hx hb dL_law_700 rfl (lv_at hl 3 rfl) ?_
                                              refine lv_iconst (v := (3 : Int32)) hx hb dL_law_701 (by decide) ?_
                                              refine lv_iadd hx hb dL_law_702 ?_
                                              obtain ⟨hi_167, hf⟩ := hf
                                              refine va_sld hx hb hX hbl hbA hS hi_167 dL_law_703 ?_
                                              have hPc : va_P D classes (XW cI cZ cW Z Y (Z 1 0) (Z 2 0) S a) H := P_pre hP
                                              have hDc : va_D A (XW cI cZ cW Z Y (Z 1 0) (Z 2 0) S a) := D_pre hD
                                              have hFc := va_freeX hDc hS hA
                                              refine va_calli (va_runV (As := [.int (xs (x3 + (1 : Int32)).toNatClampNeg), .int (xs (x3 + (2 : Int32)).toNatClampNeg), .int (xs (x3 + (3 : Int32)).toNatClampNeg)]) (rest := []) ⟨hx, hb, hml, hown, hts⟩ (c_X6_taste l D cI cZ cW Z Y H.size (xs (x3 + (1 : Int32)).toNatClampNeg) (xs (x3 + (2 : Int32)).toNatClampNeg) (xs (x3 + (3 : Int32)).toNatClampNeg) S a _ hf) ⟨callB_of 3 hts (gT tw_537) rfl rfl rfl (ht _ tw_1) (ht _ tw_534) hd_X6_taste ⟨Nat.le_of_ble_eq_true rfl, Nat.le_of_ble_eq_true rfl⟩, ht _ tw_535, ht _ tw_536⟩ ⟨PW_blind, va_recv hK hPc (ci := 4) (q0 := 0) rfl eX_0, fun U hU hW => PW_mk hPc hDc hK hU hW⟩ rfl rfl hl.1 rfl (lv_room (Nat.le_of_ble_eq_true rfl)) dL_law_704 ⟨Nat.le_of_ble_eq_true rfl, Nat.le_of_ble_eq_true rfl⟩) hS (fun q _ h => hFc q h) hFc (fun r_168 u t H1 locs ht1 hvm hf hB hz1 hk1 hS => ?_)
                                              obtain ⟨S_169, a_170⟩ := u
                                              dsimp only at hf hB
                                              rw [ht1] at hB
                                              have hP := cjP hP hD hk1 hB
                                              have hD : va_D A ((XW cI cZ cW Z Y (Z 1 0) (Z 2 0) S_169 a_170) ++ wM cI cZ q9 s9) := D_L hD
                                              generalize H1 = H at hP hS ⊢
                                              refine W.eq (g2 := F0 m 707 ls [.int r_168]) rfl ?_
                                              refine lv_pop hx hb dL_law_707 rfl ?_
                                              refine lv_aload_n hx hb dL_law_708 rfl (lv_at hl 2 rfl) ?_
                                              refine lv_aload_n hx hb dL_law_709 rfl (lv_at hl 0 rfl) ?_
                                              refine lv_iload_n hx hb dL_law_710 rfl (lv_at hl 3 rfl) ?_
                                              refine lv_iconst (v := (1 : Int32)) hx hb dL_law_711 (by decide) ?_
                                              refine lv_iadd hx hb dL_law_712 ?_
                                              obtain ⟨hi_171, hf⟩ := hf
                                              refine va_sld hx hb hX hbl hbA hS hi_171 dL_law_713 ?_
                                              refine lv_aload_n hx hb dL_law_714 rfl (lv_at hl 0 rfl) ?_
                                              refine lv_iload_n hx hb dL_law_715 rfl (lv_at hl 3 rfl) ?_
                                              refine lv_iconst (v := (2 : Int32)) hx hb dL_law_716 (by decide) ?_
                                              refine lv_iadd hx hb dL_law_717 ?_
                                              obtain ⟨hi_172, hf⟩ := hf
                                              refine va_sld hx hb hX hbl hbA hS hi_172 dL_law_718 ?_
                                              refine lv_aload_n hx hb dL_law_719 rfl (lv_at hl 0 rfl) ?_
                                              refine lv_iload_n hx hb dL_law_720 rfl (lv_at hl 3 rfl) ?_
                                              refine lv_iconst (v := (3 : Int32)) hx hb dL_law_721 (by decide) ?_
                                              refine lv_iadd hx hb dL_law_722 ?_
                                              obtain ⟨hi_173, hf⟩ := hf
                                              refine va_sld hx hb hX hbl hbA hS hi_173 dL_law_723 ?_
                                              have hPc : va_P D classes (wM cI cZ q9 s9) H := P_suf hP
                                              have hDc : va_D A (wM cI cZ q9 s9) := D_suf hD
                                              have hFc := va_freeX hDc hS hA
                                              refine va_calli (va_runV (As := [.int (xs (x3 + (1 : Int32)).toNatClampNeg), .int (xs (x3 + (2 : Int32)).toNatClampNeg), .int (xs (x3 + (3 : Int32)).toNatClampNeg)]) (rest := []) ⟨hx, hb, hml, hown, hts⟩ (c_X7_taste l D cI cZ cW q9 H.size (xs (x3 + (1 : Int32)).toNatClampNeg) (xs (x3 + (2 : Int32)).toNatClampNeg) (xs (x3 + (3 : Int32)).toNatClampNeg) s9 _ hf) ⟨callB_of 3 hts (gT tw_957) rfl rfl rfl (ht _ tw_7) (ht _ tw_954) hd_X7_taste ⟨Nat.le_of_ble_eq_true rfl, Nat.le_of_ble_eq_true rfl⟩, ht _ tw_955, ht _ tw_956⟩ ⟨PW_blind, va_recv hK hPc (ci := 5) (q0 := 0) rfl eM_0, fun U hU hW => PW_mk hPc hDc hK hU hW⟩ rfl rfl hl.1 rfl (lv_room (Nat.le_of_ble_eq_true rfl)) dL_law_724 ⟨Nat.le_of_ble_eq_true rfl, Nat.le_of_ble_eq_true rfl⟩) hS (fun q _ h => hFc q h) hFc (fun r_174 u t H1 locs ht1 hvm hf hB hz1 hk1 hS => ?_)
                                              obtain ⟨s9_175, rfl⟩ : ∃ z, z = u := ⟨_, rfl⟩
                                              rw [ht1] at hB
                                              have hP := cjT hP hD hk1 hB
                                              have hD : va_D A ((XW cI cZ cW Z Y (Z 1 0) (Z 2 0) S_169 a_170) ++ wM cI cZ q9 s9_175) := D_L hD
                                              generalize H1 = H at hP hS ⊢
                                              refine W.eq (g2 := F0 m 727 ls [.int r_174]) rfl ?_
                                              refine lv_pop hx hb dL_law_727 rfl ?_
                                              refine lv_goto (tgt := 1073) hx hb dL_law_728 (by decide) ?_
                                              exact k_1073 x3 Z S_169 a_170 s9_175 H locs ls hf hP hD hS (lv_sub hl [0, 1, 2, 3] rfl)
                                            · have hf := hf.2 c_164
                                              by_cases c_176 : ((xs x3.toNatClampNeg) &&& (31 : Int32)) = (19 : Int32)
                                              · have hf := hf.1 c_176
                                                refine lv_tableIn (off := 699) (tgt := 731) hx hb dL_law_32 (by rw [c_176]; decide) (by rw [c_176]; decide) (by rw [c_176]; first | done | rfl) (by decide) ?_
                                                refine lv_aload_n hx hb dL_law_731 rfl (lv_at hl 1 rfl) ?_
                                                have hPc : va_P D classes (XW cI cZ cW Z Y (Z 1 0) (Z 2 0) S a) H := P_pre hP
                                                have hDc : va_D A (XW cI cZ cW Z Y (Z 1 0) (Z 2 0) S a) := D_pre hD
                                                have hFc := va_freeX hDc hS hA
                                                refine va_calli (va_runV (As := []) (rest := []) ⟨hx, hb, hml, hown, hts⟩ (c_X6_rinse l D cI cZ cW Z Y H.size S a _ hf) ⟨callB_of 0 hts (gT tw_545) rfl rfl rfl (ht _ tw_1) (ht _ tw_542) hd_X6_rinse ⟨Nat.le_of_ble_eq_true rfl, Nat.le_of_ble_eq_true rfl⟩, ht _ tw_543, ht _ tw_544⟩ ⟨PW_blind, va_recv hK hPc (ci := 4) (q0 := 0) rfl eX_0, fun U hU hW => PW_mk hPc hDc hK hU hW⟩ rfl rfl hl.1 rfl (lv_room (Nat.le_of_ble_eq_true rfl)) dL_law_732 ⟨Nat.le_of_ble_eq_true rfl, Nat.le_of_ble_eq_true rfl⟩) hS (fun q _ h => hFc q h) hFc (fun r_177 u t H1 locs ht1 hvm hf hB hz1 hk1 hS => ?_)
                                                obtain ⟨S_178, a_179⟩ := u
                                                dsimp only at hf hB
                                                rw [ht1] at hB
                                                have hP := cjP hP hD hk1 hB
                                                have hD : va_D A ((XW cI cZ cW Z Y (Z 1 0) (Z 2 0) S_178 a_179) ++ wM cI cZ q9 s9) := D_L hD
                                                generalize H1 = H at hP hS ⊢
                                                refine W.eq (g2 := F0 m 735 ls [.int r_177]) rfl ?_
                                                refine lv_pop hx hb dL_law_735 rfl ?_
                                                refine lv_aload_n hx hb dL_law_736 rfl (lv_at hl 2 rfl) ?_
                                                have hPc : va_P D classes (wM cI cZ q9 s9) H := P_suf hP
                                                have hDc : va_D A (wM cI cZ q9 s9) := D_suf hD
                                                have hFc := va_freeX hDc hS hA
                                                refine va_calli (va_runV (As := []) (rest := []) ⟨hx, hb, hml, hown, hts⟩ (c_X7_rinse l D cI cZ cW q9 H.size s9 _ hf) ⟨callB_of 0 hts (gT tw_962) rfl rfl rfl (ht _ tw_7) (ht _ tw_959) hd_X7_rinse ⟨Nat.le_of_ble_eq_true rfl, Nat.le_of_ble_eq_true rfl⟩, ht _ tw_960, ht _ tw_961⟩ ⟨PW_blind, va_recv hK hPc (ci := 5) (q0 := 0) rfl eM_0, fun U hU hW => PW_mk hPc hDc hK hU hW⟩ rfl rfl hl.1 rfl (lv_room (Nat.le_of_ble_eq_true rfl)) dL_law_737 ⟨Nat.le_of_ble_eq_true rfl, Nat.le_of_ble_eq_true rfl⟩) hS (fun q _ h => hFc q h) hFc (fun r_180 u t H1 locs ht1 hvm hf hB hz1 hk1 hS => ?_)
                                                obtain ⟨s9_181, rfl⟩ : ∃ z, z = u := ⟨_, rfl⟩
                                                rw [ht1] at hB
                                                have hP := cjT hP hD hk1 hB
                                                have hD : va_D A ((XW cI cZ cW Z Y (Z 1 0) (Z 2 0) S_178 a_179) ++ wM cI cZ q9 s9_181) := D_L hD
                                                generalize H1 = H at hP hS ⊢
                                                refine W.eq (g2 := F0 m 740 ls [.int r_180]) rfl ?_
                                                refine lv_pop hx hb dL_law_740 rfl ?_
                                                refine lv_goto (tgt := 1073) hx hb dL_law_741 (by decide) ?_
                                                exact k_1073 x3 Z S_178 a_179 s9_181 H locs ls hf hP hD hS (lv_sub hl [0, 1, 2, 3] rfl)
                                              · have hf := hf.2 c_176
                                                by_cases c_182 : ((xs x3.toNatClampNeg) &&& (31 : Int32)) = (20 : Int32)
                                                · have hf := hf.1 c_182
                                                  refine lv_tableIn (off := 712) (tgt := 744) hx hb dL_law_32 (by rw [c_182]; decide) (by rw [c_182]; decide) (by rw [c_182]; first | done | rfl) (by decide) ?_
                                                  refine lv_aload_n hx hb dL_law_744 rfl (lv_at hl 1 rfl) ?_
                                                  refine lv_aload_n hx hb dL_law_745 rfl (lv_at hl 0 rfl) ?_
                                                  refine lv_iload_n hx hb dL_law_746 rfl (lv_at hl 3 rfl) ?_
                                                  refine lv_iconst (v := (1 : Int32)) hx hb dL_law_747 (by decide) ?_
                                                  refine lv_iadd hx hb dL_law_748 ?_
                                                  obtain ⟨hi_183, hf⟩ := hf
                                                  refine va_sld hx hb hX hbl hbA hS hi_183 dL_law_749 ?_
                                                  have hPc : va_P D classes (XW cI cZ cW Z Y (Z 1 0) (Z 2 0) S a) H := P_pre hP
                                                  have hDc : va_D A (XW cI cZ cW Z Y (Z 1 0) (Z 2 0) S a) := D_pre hD
                                                  have hFc := va_freeX hDc hS hA
                                                  refine va_calli (va_runV (As := [.int (xs (x3 + (1 : Int32)).toNatClampNeg)]) (rest := []) ⟨hx, hb, hml, hown, hts⟩ (c_X6_began l D cI cZ cW Z Y H.size (xs (x3 + (1 : Int32)).toNatClampNeg) S a _ hf) ⟨callB_of 1 hts (gT tw_549) rfl rfl rfl (ht _ tw_1) (ht _ tw_546) hd_X6_began ⟨Nat.le_of_ble_eq_true rfl, Nat.le_of_ble_eq_true rfl⟩, ht _ tw_547, ht _ tw_548⟩ ⟨PW_blind, va_recv hK hPc (ci := 4) (q0 := 0) rfl eX_0, fun U hU hW => PW_mk hPc hDc hK hU hW⟩ rfl rfl hl.1 rfl (lv_room (Nat.le_of_ble_eq_true rfl)) dL_law_750 ⟨Nat.le_of_ble_eq_true rfl, Nat.le_of_ble_eq_true rfl⟩) hS (fun q _ h => hFc q h) hFc (fun r_184 u t H1 locs ht1 hvm hf hB hz1 hk1 hS => ?_)
                                                  obtain ⟨S_185, a_186⟩ := u
                                                  dsimp only at hf hB
                                                  rw [ht1] at hB
                                                  have hP := cjP hP hD hk1 hB
                                                  have hD : va_D A ((XW cI cZ cW Z Y (Z 1 0) (Z 2 0) S_185 a_186) ++ wM cI cZ q9 s9) := D_L hD
                                                  generalize H1 = H at hP hS ⊢
                                                  refine W.eq (g2 := F0 m 753 ls [.int r_184]) rfl ?_
                                                  refine lv_pop hx hb dL_law_753 rfl ?_
                                                  refine lv_aload_n hx hb dL_law_754 rfl (lv_at hl 2 rfl) ?_
                                                  refine lv_aload_n hx hb dL_law_755 rfl (lv_at hl 0 rfl) ?_
                                                  refine lv_iload_n hx hb dL_law_756 rfl (lv_at hl 3 rfl) ?_
                                                  refine lv_iconst (v := (1 : Int32)) hx hb dL_law_757 (by decide) ?_
                                                  refine lv_iadd hx hb dL_law_758 ?_
                                                  obtain ⟨hi_187, hf⟩ := hf
                                                  refine va_sld hx hb hX hbl hbA hS hi_187 dL_law_759 ?_
                                                  have hPc : va_P D classes (wM cI cZ q9 s9) H := P_suf hP
                                                  refine vp_callSi (W.runV (As := [.int (xs (x3 + (1 : Int32)).toNatClampNeg)]) (rest := []) ⟨hx, hb, hml, hown, hts⟩ (c_X7_began l D cI cZ cW q9 (xs (x3 + (1 : Int32)).toNatClampNeg) s9 _ hf) ⟨callB_of 1 hts (gT tw_966) rfl rfl rfl (ht _ tw_7) (ht _ tw_963) hd_X7_began ⟨Nat.le_of_ble_eq_true rfl, Nat.le_of_ble_eq_true rfl⟩, ht _ tw_964, ht _ tw_965⟩ ⟨PR_blind, va_recv hK hPc (ci := 5) (q0 := 0) rfl eM_0, fun U hU hW => PR_mk hPc hK hU hW⟩ rfl rfl hl.1 rfl (lv_room (Nat.le_of_ble_eq_true rfl)) dL_law_760 ⟨Nat.le_of_ble_eq_true rfl, Nat.le_of_ble_eq_true rfl⟩) (fun r_188 hf => ?_)
                                                  refine lv_pop hx hb dL_law_763 rfl ?_
                                                  refine lv_goto (tgt := 1073) hx hb dL_law_764 (by decide) ?_
                                                  exact k_1073 x3 Z S_185 a_186 s9 H locs ls hf hP hD hS (lv_sub hl [0, 1, 2, 3] rfl)
                                                · have hf := hf.2 c_182
                                                  by_cases c_189 : ((xs x3.toNatClampNeg) &&& (31 : Int32)) = (21 : Int32)
                                                  · have hf := hf.1 c_189
                                                    refine lv_tableIn (off := 735) (tgt := 767) hx hb dL_law_32 (by rw [c_189]; decide) (by rw [c_189]; decide) (by rw [c_189]; first | done | rfl) (by decide) ?_
                                                    refine lv_aload_n hx hb dL_law_767 rfl (lv_at hl 1 rfl) ?_
                                                    refine lv_aload_n hx hb dL_law_768 rfl (lv_at hl 0 rfl) ?_
                                                    refine lv_iload_n hx hb dL_law_769 rfl (lv_at hl 3 rfl) ?_
                                                    refine lv_iconst (v := (1 : Int32)) hx hb dL_law_770 (by decide) ?_
                                                    refine lv_iadd hx hb dL_law_771 ?_
                                                    obtain ⟨hi_190, hf⟩ := hf
                                                    refine va_sld hx hb hX hbl hbA hS hi_190 dL_law_772 ?_
                                                    refine lv_aload_n hx hb dL_law_773 rfl (lv_at hl 0 rfl) ?_
                                                    refine lv_iload_n hx hb dL_law_774 rfl (lv_at hl 3 rfl) ?_
                                                    refine lv_iconst (v := (2 : Int32)) hx hb dL_law_775 (by decide) ?_
                                                    refine lv_iadd hx hb dL_law_776 ?_
                                                    obtain ⟨hi_191, hf⟩ := hf
                                                    refine va_sld hx hb hX hbl hbA hS hi_191 dL_law_777 ?_
                                                    refine lv_if_eq (tgt := 785) hx hb dL_law_778 (by decide) (fun c_192 => ?_) (fun c_192 => ?_)
                                                    · have hf := hf.1 c_192
                                                      refine lv_iconst (v := (0 : Int32)) hx hb dL_law_785 (by decide) ?_
                                                      exact k_786 x3 (0 : Int32) (xs (x3 + (1 : Int32)).toNatClampNeg) Z S a s9 H locs ls hf hP hD hS (lv_sub hl [0, 1, 2, 3] rfl)
                                                    · have hf := hf.2 c_192
                                                      refine lv_iconst (v := (1 : Int32)) hx hb dL_law_781 (by decide) ?_
                                                      refine lv_goto (tgt := 786) hx hb dL_law_782 (by decide) ?_
                                                      exact k_786 x3 (1 : Int32) (xs (x3 + (1 : Int32)).toNatClampNeg) Z S a s9 H locs ls hf hP hD hS (lv_sub hl [0, 1, 2, 3] rfl)
                                                  · have hf := hf.2 c_189
                                                    by_cases c_193 : ((xs x3.toNatClampNeg) &&& (31 : Int32)) = (22 : Int32)
                                                    · have hf := hf.1 c_193
                                                      refine lv_tableIn (off := 784) (tgt := 816) hx hb dL_law_32 (by rw [c_193]; decide) (by rw [c_193]; decide) (by rw [c_193]; first | done | rfl) (by decide) ?_
                                                      refine lv_aload_n hx hb dL_law_816 rfl (lv_at hl 1 rfl) ?_
                                                      refine lv_aload_n hx hb dL_law_817 rfl (lv_at hl 0 rfl) ?_
                                                      refine lv_iload_n hx hb dL_law_818 rfl (lv_at hl 3 rfl) ?_
                                                      refine lv_iconst (v := (1 : Int32)) hx hb dL_law_819 (by decide) ?_
                                                      refine lv_iadd hx hb dL_law_820 ?_
                                                      obtain ⟨hi_194, hf⟩ := hf
                                                      refine va_sld hx hb hX hbl hbA hS hi_194 dL_law_821 ?_
                                                      refine lv_aload_n hx hb dL_law_822 rfl (lv_at hl 0 rfl) ?_
                                                      refine lv_iload_n hx hb dL_law_823 rfl (lv_at hl 3 rfl) ?_
                                                      refine lv_iconst (v := (2 : Int32)) hx hb dL_law_824 (by decide) ?_
                                                      refine lv_iadd hx hb dL_law_825 ?_
                                                      obtain ⟨hi_195, hf⟩ := hf
                                                      refine va_sld hx hb hX hbl hbA hS hi_195 dL_law_826 ?_
                                                      refine lv_aload_n hx hb dL_law_827 rfl (lv_at hl 0 rfl) ?_
                                                      refine lv_iload_n hx hb dL_law_828 rfl (lv_at hl 3 rfl) ?_
                                                      refine lv_iconst (v := (3 : Int32)) hx hb dL_law_829 (by decide) ?_
                                                      refine lv_iadd hx hb dL_law_830 ?_
                                                      obtain ⟨hi_196, hf⟩ := hf
                                                      refine va_sld hx hb hX hbl hbA hS hi_196 dL_law_831 ?_
                                                      have hPc : va_P D classes (XW cI cZ cW Z Y (Z 1 0) (Z 2 0) S a) H := P_pre hP
                                                      refine vp_callSi (W.runV (As := [.int (xs (x3 + (1 : Int32)).toNatClampNeg), .int (xs (x3 + (2 : Int32)).toNatClampNeg), .int (xs (x3 + (3 : Int32)).toNatClampNeg)]) (rest := []) ⟨hx, hb, hml, hown, hts⟩ (c_X6_rests l D cI cZ cW Z Y (xs (x3 + (1 : Int32)).toNatClampNeg) (xs (x3 + (2 : Int32)).toNatClampNeg) (xs (x3 + (3 : Int32)).toNatClampNeg) S a _ hf) ⟨callB_of 3 hts (gT tw_595) rfl rfl rfl (ht _ tw_1) (ht _ tw_592) hd_X6_rests ⟨Nat.le_of_ble_eq_true rfl, Nat.le_of_ble_eq_true rfl⟩, ht _ tw_593, ht _ tw_594⟩ ⟨PR_blind, va_recv hK hPc (ci := 4) (q0 := 0) rfl eX_0, fun U hU hW => PR_mk hPc hK hU hW⟩ rfl rfl hl.1 rfl (lv_room (Nat.le_of_ble_eq_true rfl)) dL_law_832 ⟨Nat.le_of_ble_eq_true rfl, Nat.le_of_ble_eq_true rfl⟩) (fun r_197 hf => ?_)
                                                      refine lv_pop hx hb dL_law_835 rfl ?_
                                                      refine lv_aload_n hx hb dL_law_836 rfl (lv_at hl 2 rfl) ?_
                                                      refine lv_aload_n hx hb dL_law_837 rfl (lv_at hl 0 rfl) ?_
                                                      refine lv_iload_n hx hb dL_law_838 rfl (lv_at hl 3 rfl) ?_
                                                      refine lv_iconst (v := (1 : Int32)) hx hb dL_law_839 (by decide) ?_
                                                      refine lv_iadd hx hb dL_law_840 ?_
                                                      obtain ⟨hi_198, hf⟩ := hf
                                                      refine va_sld hx hb hX hbl hbA hS hi_198 dL_law_841 ?_
                                                      refine lv_aload_n hx hb dL_law_842 rfl (lv_at hl 0 rfl) ?_
                                                      refine lv_iload_n hx hb dL_law_843 rfl (lv_at hl 3 rfl) ?_
                                                      refine lv_iconst (v := (2 : Int32)) hx hb dL_law_844 (by decide) ?_
                                                      refine lv_iadd hx hb dL_law_845 ?_
                                                      obtain ⟨hi_199, hf⟩ := hf
                                                      refine va_sld hx hb hX hbl hbA hS hi_199 dL_law_846 ?_
                                                      refine lv_aload_n hx hb dL_law_847 rfl (lv_at hl 0 rfl) ?_
                                                      refine lv_iload_n hx hb dL_law_848 rfl (lv_at hl 3 rfl) ?_
                                                      refine lv_iconst (v := (3 : Int32)) hx hb dL_law_849 (by decide) ?_
                                                      refine lv_iadd hx hb dL_law_850 ?_
                                                      obtain ⟨hi_200, hf⟩ := hf
                                                      refine va_sld hx hb hX hbl hbA hS hi_200 dL_law_851 ?_
                                                      have hPc : va_P D classes (wM cI cZ q9 s9) H := P_suf hP
                                                      refine vp_callSi (W.runV (As := [.int (xs (x3 + (1 : Int32)).toNatClampNeg), .int (xs (x3 + (2 : Int32)).toNatClampNeg), .int (xs (x3 + (3 : Int32)).toNatClampNeg)]) (rest := []) ⟨hx, hb, hml, hown, hts⟩ (c_X7_rests l D cI cZ cW q9 (xs (x3 + (1 : Int32)).toNatClampNeg) (xs (x3 + (2 : Int32)).toNatClampNeg) (xs (x3 + (3 : Int32)).toNatClampNeg) s9 _ hf) ⟨callB_of 3 hts (gT tw_988) rfl rfl rfl (ht _ tw_7) (ht _ tw_985) hd_X7_rests ⟨Nat.le_of_ble_eq_true rfl, Nat.le_of_ble_eq_true rfl⟩, ht _ tw_986, ht _ tw_987⟩ ⟨PR_blind, va_recv hK hPc (ci := 5) (q0 := 0) rfl eM_0, fun U hU hW => PR_mk hPc hK hU hW⟩ rfl rfl hl.1 rfl (lv_room (Nat.le_of_ble_eq_true rfl)) dL_law_852 ⟨Nat.le_of_ble_eq_true rfl, Nat.le_of_ble_eq_true rfl⟩) (fun r_201 hf => ?_)
                                                      refine lv_pop hx hb dL_law_855 rfl ?_
                                                      refine lv_goto (tgt := 1073) hx hb dL_law_856 (by decide) ?_
                                                      exact k_1073 x3 Z S a s9 H locs ls hf hP hD hS (lv_sub hl [0, 1, 2, 3] rfl)
                                                    · have hf := hf.2 c_193
                                                      by_cases c_202 : ((xs x3.toNatClampNeg) &&& (31 : Int32)) = (23 : Int32)
                                                      · have hf := hf.1 c_202
                                                        refine lv_tableIn (off := 827) (tgt := 859) hx hb dL_law_32 (by rw [c_202]; decide) (by rw [c_202]; decide) (by rw [c_202]; first | done | rfl) (by decide) ?_
                                                        refine lv_aload_n hx hb dL_law_859 rfl (lv_at hl 1 rfl) ?_
                                                        refine lv_aload_n hx hb dL_law_860 rfl (lv_at hl 0 rfl) ?_
                                                        refine lv_iload_n hx hb dL_law_861 rfl (lv_at hl 3 rfl) ?_
                                                        refine lv_iconst (v := (1 : Int32)) hx hb dL_law_862 (by decide) ?_
                                                        refine lv_iadd hx hb dL_law_863 ?_
                                                        obtain ⟨hi_203, hf⟩ := hf
                                                        refine va_sld hx hb hX hbl hbA hS hi_203 dL_law_864 ?_
                                                        refine lv_aload_n hx hb dL_law_865 rfl (lv_at hl 0 rfl) ?_
                                                        refine lv_iload_n hx hb dL_law_866 rfl (lv_at hl 3 rfl) ?_
                                                        refine lv_iconst (v := (2 : Int32)) hx hb dL_law_867 (by decide) ?_
                                                        refine lv_iadd hx hb dL_law_868 ?_
                                                        obtain ⟨hi_204, hf⟩ := hf
                                                        refine va_sld hx hb hX hbl hbA hS hi_204 dL_law_869 ?_
                                                        refine lv_aload_n hx hb dL_law_870 rfl (lv_at hl 0 rfl) ?_
                                                        refine lv_iload_n hx hb dL_law_871 rfl (lv_at hl 3 rfl) ?_
                                                        refine lv_iconst (v := (3 : Int32)) hx hb dL_law_872 (by decide) ?_
                                                        refine lv_iadd hx hb dL_law_873 ?_
                                                        obtain ⟨hi_205, hf⟩ := hf
                                                        refine va_sld hx hb hX hbl hbA hS hi_205 dL_law_874 ?_
                                                        refine lv_aload_n hx hb dL_law_875 rfl (lv_at hl 0 rfl) ?_
                                                        refine lv_iload_n hx hb dL_law_876 rfl (lv_at hl 3 rfl) ?_
                                                        refine lv_iconst (v := (4 : Int32)) hx hb dL_law_877 (by decide) ?_
                                                        refine lv_iadd hx hb dL_law_878 ?_
                                                        obtain ⟨hi_206, hf⟩ := hf
                                                        refine va_sld hx hb hX hbl hbA hS hi_206 dL_law_879 ?_
                                                        refine lv_if_eq (tgt := 887) hx hb dL_law_880 (by decide) (fun c_207 => ?_) (fun c_207 => ?_)
                                                        · have hf := hf.1 c_207
                                                          refine lv_iconst (v := (0 : Int32)) hx hb dL_law_887 (by decide) ?_
                                                          exact k_888 x3 (0 : Int32) (xs (x3 + (3 : Int32)).toNatClampNeg) (xs (x3 + (2 : Int32)).toNatClampNeg) (xs (x3 + (1 : Int32)).toNatClampNeg) Z S a s9 H locs ls hf hP hD hS (lv_sub hl [0, 1, 2, 3] rfl)
                                                        · have hf := hf.2 c_207
                                                          refine lv_iconst (v := (1 : Int32)) hx hb dL_law_883 (by decide) ?_
                                                          refine lv_goto (tgt := 888) hx hb dL_law_884 (by decide) ?_
                                                          exact k_888 x3 (1 : Int32) (xs (x3 + (3 : Int32)).toNatClampNeg) (xs (x3 + (2 : Int32)).toNatClampNeg) (xs (x3 + (1 : Int32)).toNatClampNeg) Z S a s9 H locs ls hf hP hD hS (lv_sub hl [0, 1, 2, 3] rfl)
                                                      · have hf := hf.2 c_202
                                                        by_cases c_208 : ((xs x3.toNatClampNeg) &&& (31 : Int32)) = (24 : Int32)
                                                        · have hf := hf.1 c_208
                                                          refine lv_tableIn (off := 896) (tgt := 928) hx hb dL_law_32 (by rw [c_208]; decide) (by rw [c_208]; decide) (by rw [c_208]; first | done | rfl) (by decide) ?_
                                                          refine lv_aload_n hx hb dL_law_928 rfl (lv_at hl 1 rfl) ?_
                                                          refine lv_aload_n hx hb dL_law_929 rfl (lv_at hl 0 rfl) ?_
                                                          refine lv_iload_n hx hb dL_law_930 rfl (lv_at hl 3 rfl) ?_
                                                          refine lv_iconst (v := (1 : Int32)) hx hb dL_law_931 (by decide) ?_
                                                          refine lv_iadd hx hb dL_law_932 ?_
                                                          obtain ⟨hi_209, hf⟩ := hf
                                                          refine va_sld hx hb hX hbl hbA hS hi_209 dL_law_933 ?_
                                                          refine lv_i2l (v := (xs (x3 + (1 : Int32)).toNatClampNeg).toInt64) hx hb dL_law_934 rfl ?_
                                                          refine lv_bipush (v := (32 : Int32)) hx hb dL_law_935 (by decide) ?_
                                                          refine lv_lshl (v := ((xs (x3 + (1 : Int32)).toNatClampNeg).toInt64 <<< ((32 : Int32).toInt64 &&& 63))) hx hb dL_law_937 rfl ?_
                                                          refine lv_aload_n hx hb dL_law_938 rfl (lv_at hl 0 rfl) ?_
                                                          refine lv_iload_n hx hb dL_law_939 rfl (lv_at hl 3 rfl) ?_
                                                          refine lv_iconst (v := (2 : Int32)) hx hb dL_law_940 (by decide) ?_
                                                          refine lv_iadd hx hb dL_law_941 ?_
                                                          obtain ⟨hi_210, hf⟩ := hf
                                                          refine va_sld hx hb hX hbl hbA hS hi_210 dL_law_942 ?_
                                                          refine lv_i2l (v := (xs (x3 + (2 : Int32)).toNatClampNeg).toInt64) hx hb dL_law_943 rfl ?_
                                                          refine lv_ldc2 (v := (4294967295 : Int64)) hx hb hown (ht _ tw_1026) dL_law_944 ?_
                                                          refine lv_land hx hb dL_law_947 ?_
                                                          refine lv_lor hx hb dL_law_948 ?_
                                                          have hPc : va_P D classes (XW cI cZ cW Z Y (Z 1 0) (Z 2 0) S a) H := P_pre hP
                                                          have hDc : va_D A (XW cI cZ cW Z Y (Z 1 0) (Z 2 0) S a) := D_pre hD
                                                          have hFc := va_freeX hDc hS hA
                                                          refine va_calll (va_runV (As := [.long (((xs (x3 + (1 : Int32)).toNatClampNeg).toInt64 <<< ((32 : Int32).toInt64 &&& 63)) ||| ((xs (x3 + (2 : Int32)).toNatClampNeg).toInt64 &&& (4294967295 : Int64)))]) (rest := []) ⟨hx, hb, hml, hown, hts⟩ (c_X6_seed l D cI cZ cW Z Y H.size (((xs (x3 + (1 : Int32)).toNatClampNeg).toInt64 <<< ((32 : Int32).toInt64 &&& 63)) ||| ((xs (x3 + (2 : Int32)).toNatClampNeg).toInt64 &&& (4294967295 : Int64))) S a _ hf) ⟨callB_of 1 hts (gT tw_625) rfl rfl rfl (ht _ tw_1) (ht _ tw_622) hd_X6_seed ⟨Nat.le_of_ble_eq_true rfl, Nat.le_of_ble_eq_true rfl⟩, ht _ tw_623, ht _ tw_624⟩ ⟨PW_blind, va_recv hK hPc (ci := 4) (q0 := 0) rfl eX_0, fun U hU hW => PW_mk hPc hDc hK hU hW⟩ rfl rfl hl.1 rfl (lv_room (Nat.le_of_ble_eq_true rfl)) dL_law_949 ⟨Nat.le_of_ble_eq_true rfl, Nat.le_of_ble_eq_true rfl⟩) hS (fun q _ h => hFc q h) hFc (fun r_211 u t H1 locs ht1 hvm hf hB hz1 hk1 hS => ?_)
                                                          obtain ⟨S_212, a_213⟩ := u
                                                          dsimp only at hf hB
                                                          rw [ht1] at hB
                                                          have hP := cjP hP hD hk1 hB
                                                          have hD : va_D A ((XW cI cZ cW Z Y (Z 1 0) (Z 2 0) S_212 a_213) ++ wM cI cZ q9 s9) := D_L hD
                                                          generalize H1 = H at hP hS ⊢
                                                          refine W.eq (g2 := F0 m 952 ls [.long r_211]) rfl ?_
                                                          refine lv_pop2_2 hx hb dL_law_952 rfl ?_
                                                          refine lv_aload_n hx hb dL_law_953 rfl (lv_at hl 2 rfl) ?_
                                                          refine lv_aload_n hx hb dL_law_954 rfl (lv_at hl 0 rfl) ?_
                                                          refine lv_iload_n hx hb dL_law_955 rfl (lv_at hl 3 rfl) ?_
                                                          refine lv_iconst (v := (1 : Int32)) hx hb dL_law_956 (by decide) ?_
                                                          refine lv_iadd hx hb dL_law_957 ?_
                                                          obtain ⟨hi_214, hf⟩ := hf
                                                          refine va_sld hx hb hX hbl hbA hS hi_214 dL_law_958 ?_
                                                          refine lv_i2l (v := (xs (x3 + (1 : Int32)).toNatClampNeg).toInt64) hx hb dL_law_959 rfl ?_
                                                          refine lv_bipush (v := (32 : Int32)) hx hb dL_law_960 (by decide) ?_
                                                          refine lv_lshl (v := ((xs (x3 + (1 : Int32)).toNatClampNeg).toInt64 <<< ((32 : Int32).toInt64 &&& 63))) hx hb dL_law_962 rfl ?_
                                                          refine lv_aload_n hx hb dL_law_963 rfl (lv_at hl 0 rfl) ?_
                                                          refine lv_iload_n hx hb dL_law_964 rfl (lv_at hl 3 rfl) ?_
                                                          refine lv_iconst (v := (2 : Int32)) hx hb dL_law_965 (by decide) ?_
                                                          refine lv_iadd hx hb dL_law_966 ?_
                                                          obtain ⟨hi_215, hf⟩ := hf
                                                          refine va_sld hx hb hX hbl hbA hS hi_215 dL_law_967 ?_
                                                          refine lv_i2l (v := (xs (x3 + (2 : Int32)).toNatClampNeg).toInt64) hx hb dL_law_968 rfl ?_
                                                          refine lv_ldc2 (v := (4294967295 : Int64)) hx hb hown (ht _ tw_1026) dL_law_969 ?_
                                                          refine lv_land hx hb dL_law_972 ?_
                                                          refine lv_lor hx hb dL_law_973 ?_
                                                          have hPc : va_P D classes (wM cI cZ q9 s9) H := P_suf hP
                                                          have hDc : va_D A (wM cI cZ q9 s9) := D_suf hD
                                                          have hFc := va_freeX hDc hS hA
                                                          refine va_calll (va_runV (As := [.long (((xs (x3 + (1 : Int32)).toNatClampNeg).toInt64 <<< ((32 : Int32).toInt64 &&& 63)) ||| ((xs (x3 + (2 : Int32)).toNatClampNeg).toInt64 &&& (4294967295 : Int64)))]) (rest := []) ⟨hx, hb, hml, hown, hts⟩ (c_X7_seed l D cI cZ cW q9 H.size (((xs (x3 + (1 : Int32)).toNatClampNeg).toInt64 <<< ((32 : Int32).toInt64 &&& 63)) ||| ((xs (x3 + (2 : Int32)).toNatClampNeg).toInt64 &&& (4294967295 : Int64))) s9 _ hf) ⟨callB_of 1 hts (gT tw_1005) rfl rfl rfl (ht _ tw_7) (ht _ tw_1002) hd_X7_seed ⟨Nat.le_of_ble_eq_true rfl, Nat.le_of_ble_eq_true rfl⟩, ht _ tw_1003, ht _ tw_1004⟩ ⟨PW_blind, va_recv hK hPc (ci := 5) (q0 := 0) rfl eM_0, fun U hU hW => PW_mk hPc hDc hK hU hW⟩ rfl rfl hl.1 rfl (lv_room (Nat.le_of_ble_eq_true rfl)) dL_law_974 ⟨Nat.le_of_ble_eq_true rfl, Nat.le_of_ble_eq_true rfl⟩) hS (fun q _ h => hFc q h) hFc (fun r_216 u t H1 locs ht1 hvm hf hB hz1 hk1 hS => ?_)
                                                          obtain ⟨s9_217, rfl⟩ : ∃ z, z = u := ⟨_, rfl⟩
                                                          rw [ht1] at hB
                                                          have hP := cjT hP hD hk1 hB
                                                          have hD : va_D A ((XW cI cZ cW Z Y (Z 1 0) (Z 2 0) S_212 a_213) ++ wM cI cZ q9 s9_217) := D_L hD
                                                          generalize H1 = H at hP hS ⊢
                                                          refine W.eq (g2 := F0 m 977 ls [.long r_216]) rfl ?_
                                                          refine lv_pop2_2 hx hb dL_law_977 rfl ?_
                                                          refine lv_goto (tgt := 1073) hx hb dL_law_978 (by decide) ?_
                                                          exact k_1073 x3 Z S_212 a_213 s9_217 H locs ls hf hP hD hS (lv_sub hl [0, 1, 2, 3] rfl)
                                                        · have hf := hf.2 c_208
                                                          by_cases c_218 : ((xs x3.toNatClampNeg) &&& (31 : Int32)) = (25 : Int32)
                                                          · have hf := hf.1 c_218
                                                            refine lv_tableIn (off := 949) (tgt := 981) hx hb dL_law_32 (by rw [c_218]; decide) (by rw [c_218]; decide) (by rw [c_218]; first | done | rfl) (by decide) ?_
                                                            refine lv_aload_n hx hb dL_law_981 rfl (lv_at hl 1 rfl) ?_
                                                            refine lv_aload_n hx hb dL_law_982 rfl (lv_at hl 0 rfl) ?_
                                                            refine lv_iload_n hx hb dL_law_983 rfl (lv_at hl 3 rfl) ?_
                                                            refine lv_iconst (v := (1 : Int32)) hx hb dL_law_984 (by decide) ?_
                                                            refine lv_iadd hx hb dL_law_985 ?_
                                                            obtain ⟨hi_219, hf⟩ := hf
                                                            refine va_sld hx hb hX hbl hbA hS hi_219 dL_law_986 ?_
                                                            have hPc : va_P D classes (XW cI cZ cW Z Y (Z 1 0) (Z 2 0) S a) H := P_pre hP
                                                            have hDc : va_D A (XW cI cZ cW Z Y (Z 1 0) (Z 2 0) S a) := D_pre hD
                                                            have hFc := va_freeX hDc hS hA
                                                            refine va_calli (va_runV (As := [.int (xs (x3 + (1 : Int32)).toNatClampNeg)]) (rest := []) ⟨hx, hb, hml, hown, hts⟩ (c_X6_years l D cI cZ cW Z Y H.size (xs (x3 + (1 : Int32)).toNatClampNeg) S a _ hf) ⟨callB_of 1 hts (gT tw_629) rfl rfl rfl (ht _ tw_1) (ht _ tw_626) hd_X6_years ⟨Nat.le_of_ble_eq_true rfl, Nat.le_of_ble_eq_true rfl⟩, ht _ tw_627, ht _ tw_628⟩ ⟨PW_blind, va_recv hK hPc (ci := 4) (q0 := 0) rfl eX_0, fun U hU hW => PW_mk hPc hDc hK hU hW⟩ rfl rfl hl.1 rfl (lv_room (Nat.le_of_ble_eq_true rfl)) dL_law_987 ⟨Nat.le_of_ble_eq_true rfl, Nat.le_of_ble_eq_true rfl⟩) hS (fun q _ h => hFc q h) hFc (fun r_220 u t H1 locs ht1 hvm hf hB hz1 hk1 hS => ?_)
                                                            obtain ⟨S_221, a_222⟩ := u
                                                            dsimp only at hf hB
                                                            rw [ht1] at hB
                                                            have hP := cjP hP hD hk1 hB
                                                            have hD : va_D A ((XW cI cZ cW Z Y (Z 1 0) (Z 2 0) S_221 a_222) ++ wM cI cZ q9 s9) := D_L hD
                                                            generalize H1 = H at hP hS ⊢
                                                            refine W.eq (g2 := F0 m 990 ls [.int r_220]) rfl ?_
                                                            refine lv_pop hx hb dL_law_990 rfl ?_
                                                            refine lv_aload_n hx hb dL_law_991 rfl (lv_at hl 2 rfl) ?_
                                                            refine lv_aload_n hx hb dL_law_992 rfl (lv_at hl 0 rfl) ?_
                                                            refine lv_iload_n hx hb dL_law_993 rfl (lv_at hl 3 rfl) ?_
                                                            refine lv_iconst (v := (1 : Int32)) hx hb dL_law_994 (by decide) ?_
                                                            refine lv_iadd hx hb dL_law_995 ?_
                                                            obtain ⟨hi_223, hf⟩ := hf
                                                            refine va_sld hx hb hX hbl hbA hS hi_223 dL_law_996 ?_
                                                            have hPc : va_P D classes (wM cI cZ q9 s9) H := P_suf hP
                                                            have hDc : va_D A (wM cI cZ q9 s9) := D_suf hD
                                                            have hFc := va_freeX hDc hS hA
                                                            refine va_calli (va_runV (As := [.int (xs (x3 + (1 : Int32)).toNatClampNeg)]) (rest := []) ⟨hx, hb, hml, hown, hts⟩ (c_X7_years l D cI cZ cW q9 H.size (xs (x3 + (1 : Int32)).toNatClampNeg) s9 _ hf) ⟨callB_of 1 hts (gT tw_1009) rfl rfl rfl (ht _ tw_7) (ht _ tw_1006) hd_X7_years ⟨Nat.le_of_ble_eq_true rfl, Nat.le_of_ble_eq_true rfl⟩, ht _ tw_1007, ht _ tw_1008⟩ ⟨PW_blind, va_recv hK hPc (ci := 5) (q0 := 0) rfl eM_0, fun U hU hW => PW_mk hPc hDc hK hU hW⟩ rfl rfl hl.1 rfl (lv_room (Nat.le_of_ble_eq_true rfl)) dL_law_997 ⟨Nat.le_of_ble_eq_true rfl, Nat.le_of_ble_eq_true rfl⟩) hS (fun q _ h => hFc q h) hFc (fun r_224 u t H1 locs ht1 hvm hf hB hz1 hk1 hS => ?_)
                                                            obtain ⟨s9_225, rfl⟩ : ∃ z, z = u := ⟨_, rfl⟩
                                                            rw [ht1] at hB
                                                            have hP := cjT hP hD hk1 hB
                                                            have hD : va_D A ((XW cI cZ cW Z Y (Z 1 0) (Z 2 0) S_221 a_222) ++ wM cI cZ q9 s9_225) := D_L hD
                                                            generalize H1 = H at hP hS ⊢
                                                            refine W.eq (g2 := F0 m 1000 ls [.int r_224]) rfl ?_
                                                            refine lv_pop hx hb dL_law_1000 rfl ?_
                                                            refine lv_goto (tgt := 1073) hx hb dL_law_1001 (by decide) ?_
                                                            exact k_1073 x3 Z S_221 a_222 s9_225 H locs ls hf hP hD hS (lv_sub hl [0, 1, 2, 3] rfl)
                                                          · have hf := hf.2 c_218
                                                            by_cases c_226 : ((xs x3.toNatClampNeg) &&& (31 : Int32)) = (26 : Int32)
                                                            · have hf := hf.1 c_226
                                                              refine lv_tableIn (off := 972) (tgt := 1004) hx hb dL_law_32 (by rw [c_226]; decide) (by rw [c_226]; decide) (by rw [c_226]; first | done | rfl) (by decide) ?_
                                                              refine lv_aload_n hx hb dL_law_1004 rfl (lv_at hl 1 rfl) ?_
                                                              refine lv_aload_n hx hb dL_law_1005 rfl (lv_at hl 0 rfl) ?_
                                                              refine lv_iload_n hx hb dL_law_1006 rfl (lv_at hl 3 rfl) ?_
                                                              refine lv_iconst (v := (1 : Int32)) hx hb dL_law_1007 (by decide) ?_
                                                              refine lv_iadd hx hb dL_law_1008 ?_
                                                              obtain ⟨hi_227, hf⟩ := hf
                                                              refine va_sld hx hb hX hbl hbA hS hi_227 dL_law_1009 ?_
                                                              have hPc : va_P D classes (XW cI cZ cW Z Y (Z 1 0) (Z 2 0) S a) H := P_pre hP
                                                              have hDc : va_D A (XW cI cZ cW Z Y (Z 1 0) (Z 2 0) S a) := D_pre hD
                                                              have hFc := va_freeX hDc hS hA
                                                              refine va_calli (va_runV (As := [.int (xs (x3 + (1 : Int32)).toNatClampNeg)]) (rest := []) ⟨hx, hb, hml, hown, hts⟩ (c_X6_keep l D cI cZ cW Z Y H.size (xs (x3 + (1 : Int32)).toNatClampNeg) S a _ hf) ⟨callB_of 1 hts (gT tw_636) rfl rfl rfl (ht _ tw_1) (ht _ tw_633) hd_X6_keep ⟨Nat.le_of_ble_eq_true rfl, Nat.le_of_ble_eq_true rfl⟩, ht _ tw_634, ht _ tw_635⟩ ⟨PW_blind, va_recv hK hPc (ci := 4) (q0 := 0) rfl eX_0, fun U hU hW => PW_mk hPc hDc hK hU hW⟩ rfl rfl hl.1 rfl (lv_room (Nat.le_of_ble_eq_true rfl)) dL_law_1010 ⟨Nat.le_of_ble_eq_true rfl, Nat.le_of_ble_eq_true rfl⟩) hS (fun q _ h => hFc q h) hFc (fun r_228 u t H1 locs ht1 hvm hf hB hz1 hk1 hS => ?_)
                                                              obtain ⟨S_229, a_230⟩ := u
                                                              dsimp only at hf hB
                                                              rw [ht1] at hB
                                                              have hP := cjP hP hD hk1 hB
                                                              have hD : va_D A ((XW cI cZ cW Z Y (Z 1 0) (Z 2 0) S_229 a_230) ++ wM cI cZ q9 s9) := D_L hD
                                                              generalize H1 = H at hP hS ⊢
                                                              refine W.eq (g2 := F0 m 1013 ls [.int r_228]) rfl ?_
                                                              refine lv_pop hx hb dL_law_1013 rfl ?_
                                                              refine lv_aload_n hx hb dL_law_1014 rfl (lv_at hl 2 rfl) ?_
                                                              refine lv_aload_n hx hb dL_law_1015 rfl (lv_at hl 0 rfl) ?_
                                                              refine lv_iload_n hx hb dL_law_1016 rfl (lv_at hl 3 rfl) ?_
                                                              refine lv_iconst (v := (1 : Int32)) hx hb dL_law_1017 (by decide) ?_
                                                              refine lv_iadd hx hb dL_law_1018 ?_
                                                              obtain ⟨hi_231, hf⟩ := hf
                                                              refine va_sld hx hb hX hbl hbA hS hi_231 dL_law_1019 ?_
                                                              have hPc : va_P D classes (wM cI cZ q9 s9) H := P_suf hP
                                                              have hDc : va_D A (wM cI cZ q9 s9) := D_suf hD
                                                              have hFc := va_freeX hDc hS hA
                                                              refine va_calli (va_runV (As := [.int (xs (x3 + (1 : Int32)).toNatClampNeg)]) (rest := []) ⟨hx, hb, hml, hown, hts⟩ (c_X7_keep l D cI cZ cW q9 H.size (xs (x3 + (1 : Int32)).toNatClampNeg) s9 _ hf) ⟨callB_of 1 hts (gT tw_1017) rfl rfl rfl (ht _ tw_7) (ht _ tw_1014) hd_X7_keep ⟨Nat.le_of_ble_eq_true rfl, Nat.le_of_ble_eq_true rfl⟩, ht _ tw_1015, ht _ tw_1016⟩ ⟨PW_blind, va_recv hK hPc (ci := 5) (q0 := 0) rfl eM_0, fun U hU hW => PW_mk hPc hDc hK hU hW⟩ rfl rfl hl.1 rfl (lv_room (Nat.le_of_ble_eq_true rfl)) dL_law_1020 ⟨Nat.le_of_ble_eq_true rfl, Nat.le_of_ble_eq_true rfl⟩) hS (fun q _ h => hFc q h) hFc (fun r_232 u t H1 locs ht1 hvm hf hB hz1 hk1 hS => ?_)
                                                              obtain ⟨s9_233, rfl⟩ : ∃ z, z = u := ⟨_, rfl⟩
                                                              rw [ht1] at hB
                                                              have hP := cjT hP hD hk1 hB
                                                              have hD : va_D A ((XW cI cZ cW Z Y (Z 1 0) (Z 2 0) S_229 a_230) ++ wM cI cZ q9 s9_233) := D_L hD
                                                              generalize H1 = H at hP hS ⊢
                                                              refine W.eq (g2 := F0 m 1023 ls [.int r_232]) rfl ?_
                                                              refine lv_pop hx hb dL_law_1023 rfl ?_
                                                              refine lv_goto (tgt := 1073) hx hb dL_law_1024 (by decide) ?_
                                                              exact k_1073 x3 Z S_229 a_230 s9_233 H locs ls hf hP hD hS (lv_sub hl [0, 1, 2, 3] rfl)
                                                            · have hf := hf.2 c_226
                                                              by_cases c_234 : ((xs x3.toNatClampNeg) &&& (31 : Int32)) = (27 : Int32)
                                                              · have hf := hf.1 c_234
                                                                refine lv_tableIn (off := 995) (tgt := 1027) hx hb dL_law_32 (by rw [c_234]; decide) (by rw [c_234]; decide) (by rw [c_234]; first | done | rfl) (by decide) ?_
                                                                refine lv_aload_n hx hb dL_law_1027 rfl (lv_at hl 1 rfl) ?_
                                                                refine lv_aload_n hx hb dL_law_1028 rfl (lv_at hl 0 rfl) ?_
                                                                refine lv_iload_n hx hb dL_law_1029 rfl (lv_at hl 3 rfl) ?_
                                                                refine lv_iconst (v := (1 : Int32)) hx hb dL_law_1030 (by decide) ?_
                                                                refine lv_iadd hx hb dL_law_1031 ?_
                                                                obtain ⟨hi_235, hf⟩ := hf
                                                                refine va_sld hx hb hX hbl hbA hS hi_235 dL_law_1032 ?_
                                                                have hPc : va_P D classes (XW cI cZ cW Z Y (Z 1 0) (Z 2 0) S a) H := P_pre hP
                                                                have hDc : va_D A (XW cI cZ cW Z Y (Z 1 0) (Z 2 0) S a) := D_pre hD
                                                                have hFc := va_freeX hDc hS hA
                                                                refine va_calli (va_runV (As := [.int (xs (x3 + (1 : Int32)).toNatClampNeg)]) (rest := []) ⟨hx, hb, hml, hown, hts⟩ (c_X6_again l D cI cZ cW Z Y H.size (xs (x3 + (1 : Int32)).toNatClampNeg) S a _ hf) ⟨callB_of 1 hts (gT tw_644) rfl rfl rfl (ht _ tw_1) (ht _ tw_641) hd_X6_again ⟨Nat.le_of_ble_eq_true rfl, Nat.le_of_ble_eq_true rfl⟩, ht _ tw_642, ht _ tw_643⟩ ⟨PW_blind, va_recv hK hPc (ci := 4) (q0 := 0) rfl eX_0, fun U hU hW => PW_mk hPc hDc hK hU hW⟩ rfl rfl hl.1 rfl (lv_room (Nat.le_of_ble_eq_true rfl)) dL_law_1033 ⟨Nat.le_of_ble_eq_true rfl, Nat.le_of_ble_eq_true rfl⟩) hS (fun q _ h => hFc q h) hFc (fun r_236 u t H1 locs ht1 hvm hf hB hz1 hk1 hS => ?_)
                                                                obtain ⟨S_237, a_238⟩ := u
                                                                dsimp only at hf hB
                                                                rw [ht1] at hB
                                                                have hP := cjP hP hD hk1 hB
                                                                have hD : va_D A ((XW cI cZ cW Z Y (Z 1 0) (Z 2 0) S_237 a_238) ++ wM cI cZ q9 s9) := D_L hD
                                                                generalize H1 = H at hP hS ⊢
                                                                refine W.eq (g2 := F0 m 1036 ls [.int r_236]) rfl ?_
                                                                refine lv_pop hx hb dL_law_1036 rfl ?_
                                                                refine lv_aload_n hx hb dL_law_1037 rfl (lv_at hl 2 rfl) ?_
                                                                refine lv_aload_n hx hb dL_law_1038 rfl (lv_at hl 0 rfl) ?_
                                                                refine lv_iload_n hx hb dL_law_1039 rfl (lv_at hl 3 rfl) ?_
                                                                refine lv_iconst (v := (1 : Int32)) hx hb dL_law_1040 (by decide) ?_
                                                                refine lv_iadd hx hb dL_law_1041 ?_
                                                                obtain ⟨hi_239, hf⟩ := hf
                                                                refine va_sld hx hb hX hbl hbA hS hi_239 dL_law_1042 ?_
                                                                have hPc : va_P D classes (wM cI cZ q9 s9) H := P_suf hP
                                                                have hDc : va_D A (wM cI cZ q9 s9) := D_suf hD
                                                                have hFc := va_freeX hDc hS hA
                                                                refine va_calli (va_runV (As := [.int (xs (x3 + (1 : Int32)).toNatClampNeg)]) (rest := []) ⟨hx, hb, hml, hown, hts⟩ (c_X7_again l D cI cZ cW q9 H.size (xs (x3 + (1 : Int32)).toNatClampNeg) s9 _ hf) ⟨callB_of 1 hts (gT tw_1021) rfl rfl rfl (ht _ tw_7) (ht _ tw_1018) hd_X7_again ⟨Nat.le_of_ble_eq_true rfl, Nat.le_of_ble_eq_true rfl⟩, ht _ tw_1019, ht _ tw_1020⟩ ⟨PW_blind, va_recv hK hPc (ci := 5) (q0 := 0) rfl eM_0, fun U hU hW => PW_mk hPc hDc hK hU hW⟩ rfl rfl hl.1 rfl (lv_room (Nat.le_of_ble_eq_true rfl)) dL_law_1043 ⟨Nat.le_of_ble_eq_true rfl, Nat.le_of_ble_eq_true rfl⟩) hS (fun q _ h => hFc q h) hFc (fun r_240 u t H1 locs ht1 hvm hf hB hz1 hk1 hS => ?_)
                                                                obtain ⟨s9_241, rfl⟩ : ∃ z, z = u := ⟨_, rfl⟩
                                                                rw [ht1] at hB
                                                                have hP := cjT hP hD hk1 hB
                                                                have hD : va_D A ((XW cI cZ cW Z Y (Z 1 0) (Z 2 0) S_237 a_238) ++ wM cI cZ q9 s9_241) := D_L hD
                                                                generalize H1 = H at hP hS ⊢
                                                                refine W.eq (g2 := F0 m 1046 ls [.int r_240]) rfl ?_
                                                                refine lv_pop hx hb dL_law_1046 rfl ?_
                                                                refine lv_goto (tgt := 1073) hx hb dL_law_1047 (by decide) ?_
                                                                exact k_1073 x3 Z S_237 a_238 s9_241 H locs ls hf hP hD hS (lv_sub hl [0, 1, 2, 3] rfl)
                                                              · have hf := hf.2 c_234
                                                                by_cases c_242 : ((xs x3.toNatClampNeg) &&& (31 : Int32)) = (28 : Int32)
                                                                · have hf := hf.1 c_242
                                                                  refine lv_tableIn (off := 1018) (tgt := 1050) hx hb dL_law_32 (by rw [c_242]; decide) (by rw [c_242]; decide) (by rw [c_242]; first | done | rfl) (by decide) ?_
                                                                  refine lv_aload_n hx hb dL_law_1050 rfl (lv_at hl 1 rfl) ?_
                                                                  refine lv_aload_n hx hb dL_law_1051 rfl (lv_at hl 0 rfl) ?_
                                                                  refine lv_iload_n hx hb dL_law_1052 rfl (lv_at hl 3 rfl) ?_
                                                                  refine lv_iconst (v := (1 : Int32)) hx hb dL_law_1053 (by decide) ?_
                                                                  refine lv_iadd hx hb dL_law_1054 ?_
                                                                  obtain ⟨hi_243, hf⟩ := hf
                                                                  refine va_sld hx hb hX hbl hbA hS hi_243 dL_law_1055 ?_
                                                                  have hPc : va_P D classes (XW cI cZ cW Z Y (Z 1 0) (Z 2 0) S a) H := P_pre hP
                                                                  refine vp_callSi (W.runV (As := [.int (xs (x3 + (1 : Int32)).toNatClampNeg)]) (rest := []) ⟨hx, hb, hml, hown, hts⟩ (c_X6_count l D cI cZ cW Z Y (xs (x3 + (1 : Int32)).toNatClampNeg) S a _ hf) ⟨callB_of 1 hts (gT tw_648) rfl rfl rfl (ht _ tw_1) (ht _ tw_645) hd_X6_count ⟨Nat.le_of_ble_eq_true rfl, Nat.le_of_ble_eq_true rfl⟩, ht _ tw_646, ht _ tw_647⟩ ⟨PR_blind, va_recv hK hPc (ci := 4) (q0 := 0) rfl eX_0, fun U hU hW => PR_mk hPc hK hU hW⟩ rfl rfl hl.1 rfl (lv_room (Nat.le_of_ble_eq_true rfl)) dL_law_1056 ⟨Nat.le_of_ble_eq_true rfl, Nat.le_of_ble_eq_true rfl⟩) (fun r_244 hf => ?_)
                                                                  refine lv_pop hx hb dL_law_1059 rfl ?_
                                                                  refine lv_aload_n hx hb dL_law_1060 rfl (lv_at hl 2 rfl) ?_
                                                                  refine lv_aload_n hx hb dL_law_1061 rfl (lv_at hl 0 rfl) ?_
                                                                  refine lv_iload_n hx hb dL_law_1062 rfl (lv_at hl 3 rfl) ?_
                                                                  refine lv_iconst (v := (1 : Int32)) hx hb dL_law_1063 (by decide) ?_
                                                                  refine lv_iadd hx hb dL_law_1064 ?_
                                                                  obtain ⟨hi_245, hf⟩ := hf
                                                                  refine va_sld hx hb hX hbl hbA hS hi_245 dL_law_1065 ?_
                                                                  have hPc : va_P D classes (wM cI cZ q9 s9) H := P_suf hP
                                                                  refine vp_callSi (W.runV (As := [.int (xs (x3 + (1 : Int32)).toNatClampNeg)]) (rest := []) ⟨hx, hb, hml, hown, hts⟩ (c_X7_count l D cI cZ cW q9 (xs (x3 + (1 : Int32)).toNatClampNeg) s9 _ hf) ⟨callB_of 1 hts (gT tw_1025) rfl rfl rfl (ht _ tw_7) (ht _ tw_1022) hd_X7_count ⟨Nat.le_of_ble_eq_true rfl, Nat.le_of_ble_eq_true rfl⟩, ht _ tw_1023, ht _ tw_1024⟩ ⟨PR_blind, va_recv hK hPc (ci := 5) (q0 := 0) rfl eM_0, fun U hU hW => PR_mk hPc hK hU hW⟩ rfl rfl hl.1 rfl (lv_room (Nat.le_of_ble_eq_true rfl)) dL_law_1066 ⟨Nat.le_of_ble_eq_true rfl, Nat.le_of_ble_eq_true rfl⟩) (fun r_246 hf => ?_)
                                                                  refine lv_pop hx hb dL_law_1069 rfl ?_
                                                                  refine lv_goto (tgt := 1073) hx hb dL_law_1070 (by decide) ?_
                                                                  exact k_1073 x3 Z S a s9 H locs ls hf hP hD hS (lv_sub hl [0, 1, 2, 3] rfl)
                                                                · have hf := hf.2 c_242
                                                                  refine lv_tableOut (tgt := 1073) hx hb dL_law_32 (by have h0 := lv_neT (a := 0) c_16 (by decide); have h1 := lv_neT (a := 1) c_24 (by decide); have h2 := lv_neT (a := 2) c_30 (by decide); have h3 := lv_neT (a := 3) c_36 (by decide); have h4 := lv_neT (a := 4) c_45 (by decide); have h5 := lv_neT (a := 5) c_52 (by decide); have h6 := lv_neT (a := 6) c_59 (by decide); have h7 := lv_neT (a := 7) c_66 (by decide); have h8 := lv_neT (a := 8) c_72 (by decide); have h9 := lv_neT (a := 9) c_82 (by decide); have h10 := lv_neT (a := 10) c_92 (by decide); have h11 := lv_neT (a := 11) c_102 (by decide); have h12 := lv_neT (a := 12) c_108 (by decide); have h13 := lv_neT (a := 13) c_115 (by decide); have h14 := lv_neT (a := 14) c_123 (by decide); have h15 := lv_neT (a := 15) c_133 (by decide); have h16 := lv_neT (a := 16) c_143 (by decide); have h17 := lv_neT (a := 17) c_152 (by decide); have h18 := lv_neT (a := 18) c_164 (by decide); have h19 := lv_neT (a := 19) c_176 (by decide); have h20 := lv_neT (a := 20) c_182 (by decide); have h21 := lv_neT (a := 21) c_189 (by decide); have h22 := lv_neT (a := 22) c_193 (by decide); have h23 := lv_neT (a := 23) c_202 (by decide); have h24 := lv_neT (a := 24) c_208 (by decide); have h25 := lv_neT (a := 25) c_218 (by decide); have h26 := lv_neT (a := 26) c_226 (by decide); have h27 := lv_neT (a := 27) c_234 (by decide); have h28 := lv_neT (a := 28) c_242 (by decide); omega) (by decide) ?_
                                                                  exact k_1073 x3 Z S a s9 H locs ls hf hP hD hS (lv_sub hl [0, 1, 2, 3] rfl)
    exact main_18 n0_18 x3 Z S a s9 H locs ls hI0_18 hP hD hS hl
  have start : ∀ (H : Heap) (locs : List Loc), va_P D classes ((XW cI cZ cW Z Y (Z 1 0) (Z 2 0) S a) ++ wM cI cZ q9 s9) H → va_D A ((XW cI cZ cW Z Y (Z 1 0) (Z 2 0) S a) ++ wM cI cZ q9 s9) → va_S A s.heap H locs → W p l e room_1 s m #[Value.ref b] below meth c H locs 133 1443 (lw_Z below #[Value.ref b] s) (F0 m 16 ls []) := by
    intro H locs hP hD hS
    refine lv_iconst (v := (0 : Int32)) hx hb dL_law_16 (by decide) ?_
    refine lv_istore_n (lv' := [(3, .int (0 : Int32)), (2, .ref (q9 0)), (1, .ref (Z 0 0)), (0, .ref b)]) hx hb dL_law_17 rfl hl (by decide) rfl (fun ls hl => ?_)
    exact k_18 (0 : Int32) Z S a s9 H locs ls hf hP hD hS (lv_sub hl [3, 2, 1, 0] rfl)
  exact start H locs hP hD hS
