set_option maxHeartbeats 40000000 in
set_option maxRecDepth 100000 in
theorem law_run {p : Program} {e : Env} {s : State} {m : MethodId} {below : List Frame} {meth : Method} {c : Code} (l : Launch) {b L : Nat} {xs : Nat → Int32} (D : va_G) (cI cZ cW : ClassId) (Y : Nat → Nat → Nat) (q9 : Nat → Nat) (Z : Nat → Nat → Nat) (S : Nat → CS) (a : AS) (s9 : CS) (C0 : lw_At p s m meth c b L xs) (hK : va_K D classes (tyl cI cZ cW) s) (hf : wp_L_law L xs Y Z S a s9 ()) (H : Heap) (locs : List Loc) (ls : Array Slot) (A : Nat → Prop) (hAe : A = fun q => s.heap.size ≤ q) (hP : va_P D classes ((XW cI cZ cW Z Y (Z 1 0) (Z 2 0) S a) ++ wM cI cZ q9 s9) H) (hD : va_D A ((XW cI cZ cW Z Y (Z 1 0) (Z 2 0) S a) ++ wM cI cZ q9 s9)) (hS : va_S A s.heap H locs) (hl : lv_has ls 4 [(2, .ref (q9 0)), (1, .ref (Z 0 0)), (0, .ref b)]) : W p l e room_1 s m #[Value.ref b] below meth c H locs 133 1443 (lw_Z below #[Value.ref b] s) (F0 m 16 ls []) := by
  obtain ⟨hx, hb, hr, hml, hown, hts, hX, hbl, hlocks, hgv⟩ := id C0
  have ht : ∀ w ∈ lw_g, w.before _ s = true := fun w h => hts w (List.mem_filter.mp h).1
  have hA : ∀ q : Nat, s.heap.size ≤ q → A q := fun q h => by rw [hAe]; exact h
  have hbA : ¬ A b := by rw [hAe]; exact Nat.not_le.mpr hbl
  unfold wp_L_law at hf
  have k_18 : ∀ (x3 : Int32) (Z : Nat → Nat → Nat) (S : Nat → CS) (a : AS) (s9 : CS) (H : Heap) (locs : List Loc) (ls : Array Slot), B_L_law_18 L xs Y x3 Z S a s9 () → va_P D classes ((XW cI cZ cW Z Y (Z 1 0) (Z 2 0) S a) ++ wM cI cZ q9 s9) H → va_D A ((XW cI cZ cW Z Y (Z 1 0) (Z 2 0) S a) ++ wM cI cZ q9 s9) → va_S A s.heap H locs → lv_has ls 4 [(0, .ref b), (1, .ref (Z 0 0)), (2, .ref (q9 0)), (3, .int x3)] → W p l e room_1 s m #[Value.ref b] below meth c H locs 133 1443 (lw_Z below #[Value.ref b] s) (F0 m 18 ls []) := by
    intro x3 Z S a s9 H locs ls hf hP hD hS hl
    unfold B_L_law_18 at hf
    obtain ⟨I_18, ⟨n0_18, hI0_18⟩, hst_18⟩ := hf
    have main_18 : ∀ (n : Nat) (x3 : Int32) (Z : Nat → Nat → Nat) (S : Nat → CS) (a : AS) (s9 : CS) (H : Heap) (locs : List Loc) (ls : Array Slot), I_18 n (x3, Z, S, a, s9) → va_P D classes ((XW cI cZ cW Z Y (Z 1 0) (Z 2 0) S a) ++ wM cI cZ q9 s9) H → va_D A ((XW cI cZ cW Z Y (Z 1 0) (Z 2 0) S a) ++ wM cI cZ q9 s9) → va_S A s.heap H locs → lv_has ls 4 [(0, .ref b), (1, .ref (Z 0 0)), (2, .ref (q9 0)), (3, .int x3)] → W p l e room_1 s m #[Value.ref b] below meth c H locs 133 1443 (lw_Z below #[Value.ref b] s) (F0 m 18 ls []) := by
      intro n
      induction n using Nat.strongRecOn with
      | _ n_18 ih_18 =>
      intro x3 Z S a s9 H locs ls hI hP hD hS hl
      have hf : LB_L_law_18 (fun z => ∃ k, k < n_18 ∧ I_18 k z) L xs Y x3 Z S a s9 () := hst_18 n_18 (x3, Z, S, a, s9) hI
      have hG_18 : ∀ (x3 : Int32) (Z : Nat → Nat → Nat) (S : Nat → CS) (a : AS) (s9 : CS) (H : Heap) (locs : List Loc) (ls : Array Slot), (∃ k, k < n_18 ∧ I_18 k (x3, Z, S, a, s9)) → va_P D classes ((XW cI cZ cW Z Y (Z 1 0) (Z 2 0) S a) ++ wM cI cZ q9 s9) H → va_D A ((XW cI cZ cW Z Y (Z 1 0) (Z 2 0) S a) ++ wM cI cZ q9 s9) → va_S A s.heap H locs → lv_has ls 4 [(0, .ref b), (1, .ref (Z 0 0)), (2, .ref (q9 0)), (3, .int x3)] → W p l e room_1 s m #[Value.ref b] below meth c H locs 133 1443 (lw_Z below #[Value.ref b] s) (F0 m 18 ls []) := by
        rintro x3 Z S a s9 H locs ls ⟨k, hk, hI⟩ hP hD hS hl
        exact ih_18 k hk x3 Z S a s9 H locs ls hI hP hD hS hl
      unfold LB_L_law_18 at hf
      have k_1074 : ∀ (x3 : Int32) (Z : Nat → Nat → Nat) (S : Nat → CS) (a : AS) (s9 : CS) (H : Heap) (locs : List Loc) (ls : Array Slot), B_L_law_1074 (fun z => ∃ k, k < n_18 ∧ I_18 k z) L xs Y x3 Z S a s9 () → va_P D classes ((XW cI cZ cW Z Y (Z 1 0) (Z 2 0) S a) ++ wM cI cZ q9 s9) H → va_D A ((XW cI cZ cW Z Y (Z 1 0) (Z 2 0) S a) ++ wM cI cZ q9 s9) → va_S A s.heap H locs → lv_has ls 4 [(0, .ref b), (1, .ref (Z 0 0)), (2, .ref (q9 0)), (3, .int x3)] → W p l e room_1 s m #[Value.ref b] below meth c H locs 133 1443 (lw_Z below #[Value.ref b] s) (F0 m 1074 ls []) := by
        intro x3 Z S a s9 H locs ls hf hP hD hS hl
        unfold B_L_law_1074 at hf
        obtain ⟨x3_1, ex3_1⟩ : ∃ y : Int32, y = x3 + (5 : Int32) := ⟨_, rfl⟩
        have hf := hf x3_1 ex3_1
        refine lv_iinc (v := x3_1) (lv' := [(3, .int x3_1), (0, .ref b), (1, .ref (Z 0 0)), (2, .ref (q9 0))]) hx hb dL_law_1074 hl (k := 3) rfl (by rw [ex3_1]; rfl) (by decide) rfl (fun ls hl => ?_)
        refine lv_goto (tgt := 18) hx hb dL_law_1077 (by decide) ?_
        exact hG_18 x3_1 Z S a s9 H locs ls hf hP hD hS (lv_sub hl [1, 2, 3, 0] rfl)
      have k_808 : ∀ (x3 : Int32) (t0 : Int32) (t1 : Int32) (t3 : Int32) (Z : Nat → Nat → Nat) (S : Nat → CS) (a : AS) (s9 : CS) (H : Heap) (locs : List Loc) (ls : Array Slot), B_L_law_808 (fun z => ∃ k, k < n_18 ∧ I_18 k z) L xs Y x3 t0 t1 t3 Z S a s9 () → va_P D classes ((XW cI cZ cW Z Y (Z 1 0) (Z 2 0) S a) ++ wM cI cZ q9 s9) H → va_D A ((XW cI cZ cW Z Y (Z 1 0) (Z 2 0) S a) ++ wM cI cZ q9 s9) → va_S A s.heap H locs → lv_has ls 4 [(0, .ref b), (1, .ref (Z 0 0)), (2, .ref (q9 0)), (3, .int x3)] → W p l e room_1 s m #[Value.ref b] below meth c H locs 133 1443 (lw_Z below #[Value.ref b] s) (F0 m 808 ls [.int t0, .int t1, .ref (q9 0), .int t3]) := by
        intro x3 t0 t1 t3 Z S a s9 H locs ls hf hP hD hS hl
        unfold B_L_law_808 at hf
        have hPc : va_P D classes (wM cI cZ q9 s9) H := P_suf hP
        refine vp_callSi (W.runV (As := [.int t1, .int t0]) (rest := [.int t3]) ⟨hx, hb, hml, hown, hts⟩ (c_X7_share l D cI cZ cW q9 t1 t0 s9 _ hf) ⟨callB_of 2 hts (gT tw_974) rfl rfl rfl (ht _ tw_7) (ht _ tw_971) hd_X7_share ⟨Nat.le_of_ble_eq_true rfl, Nat.le_of_ble_eq_true rfl⟩, ht _ tw_972, ht _ tw_973⟩ ⟨PR_blind, va_recv hK hPc (ci := 5) (q0 := 0) rfl eM_0, fun U hU hW => PR_mk hPc hK hU hW⟩ rfl rfl hl.1 rfl (lv_room (Nat.le_of_ble_eq_true rfl)) dL_law_808 ⟨Nat.le_of_ble_eq_true rfl, Nat.le_of_ble_eq_true rfl⟩) (fun r_2 hf => ?_)
        refine lv_icmp_eq (tgt := 1074) hx hb dL_law_811 (by decide) (fun c_3 => ?_) (fun c_3 => ?_)
        · have hf := hf.1 c_3
          exact k_1074 x3 Z S a s9 H locs ls hf hP hD hS (lv_sub hl [0, 1, 2, 3] rfl)
        · have hf := hf.2 c_3
          refine lv_iconst (v := (0 : Int32)) hx hb dL_law_814 (by decide) ?_
          exact hf.elim
      have k_786 : ∀ (x3 : Int32) (t0 : Int32) (t1 : Int32) (Z : Nat → Nat → Nat) (S : Nat → CS) (a : AS) (s9 : CS) (H : Heap) (locs : List Loc) (ls : Array Slot), B_L_law_786 (fun z => ∃ k, k < n_18 ∧ I_18 k z) L xs Y x3 t0 t1 Z S a s9 () → va_P D classes ((XW cI cZ cW Z Y (Z 1 0) (Z 2 0) S a) ++ wM cI cZ q9 s9) H → va_D A ((XW cI cZ cW Z Y (Z 1 0) (Z 2 0) S a) ++ wM cI cZ q9 s9) → va_S A s.heap H locs → lv_has ls 4 [(0, .ref b), (1, .ref (Z 0 0)), (2, .ref (q9 0)), (3, .int x3)] → W p l e room_1 s m #[Value.ref b] below meth c H locs 133 1443 (lw_Z below #[Value.ref b] s) (F0 m 786 ls [.int t0, .int t1, .ref (Z 0 0)]) := by
        intro x3 t0 t1 Z S a s9 H locs ls hf hP hD hS hl
        unfold B_L_law_786 at hf
        have hPc : va_P D classes (XW cI cZ cW Z Y (Z 1 0) (Z 2 0) S a) H := P_pre hP
        refine vp_callSi (W.runV (As := [.int t1, .int t0]) (rest := []) ⟨hx, hb, hml, hown, hts⟩ (c_X6_shareN l D cI cZ cW Z Y t1 t0 S a _ hf) ⟨callB_of 2 hts (gT tw_571) rfl rfl rfl (ht _ tw_1) (ht _ tw_568) hd_X6_share ⟨Nat.le_of_ble_eq_true rfl, Nat.le_of_ble_eq_true rfl⟩, ht _ tw_569, ht _ tw_570⟩ ⟨PR_blind, va_recv hK hPc (ci := 4) (q0 := 0) rfl eX_0, fun U hU hW => PR_mk hPc hK hU hW⟩ rfl rfl hl.1 rfl (lv_room (Nat.le_of_ble_eq_true rfl)) dL_law_786 ⟨Nat.le_of_ble_eq_true rfl, Nat.le_of_ble_eq_true rfl⟩) (fun r_4 hf => ?_)
        refine lv_aload_n hx hb dL_law_789 rfl (lv_at hl 2 rfl) ?_
        refine lv_aload_n hx hb dL_law_790 rfl (lv_at hl 0 rfl) ?_
        refine lv_iload_n hx hb dL_law_791 rfl (lv_at hl 3 rfl) ?_
        refine lv_iconst (v := (1 : Int32)) hx hb dL_law_792 (by decide) ?_
        refine lv_iadd hx hb dL_law_793 ?_
        obtain ⟨hi_5, hf⟩ := hf
        refine va_sld hx hb hX hbl hbA hS hi_5 dL_law_794 ?_
        refine lv_aload_n hx hb dL_law_795 rfl (lv_at hl 0 rfl) ?_
        refine lv_iload_n hx hb dL_law_796 rfl (lv_at hl 3 rfl) ?_
        refine lv_iconst (v := (2 : Int32)) hx hb dL_law_797 (by decide) ?_
        refine lv_iadd hx hb dL_law_798 ?_
        obtain ⟨hi_6, hf⟩ := hf
        refine va_sld hx hb hX hbl hbA hS hi_6 dL_law_799 ?_
        refine lv_if_eq (tgt := 807) hx hb dL_law_800 (by decide) (fun c_7 => ?_) (fun c_7 => ?_)
        · have hf := hf.1 c_7
          refine lv_iconst (v := (0 : Int32)) hx hb dL_law_807 (by decide) ?_
          exact k_808 x3 (0 : Int32) (xs (x3 + (1 : Int32)).toNatClampNeg) r_4 Z S a s9 H locs ls hf hP hD hS (lv_sub hl [0, 1, 2, 3] rfl)
        · have hf := hf.2 c_7
          refine lv_iconst (v := (1 : Int32)) hx hb dL_law_803 (by decide) ?_
          refine lv_goto (tgt := 808) hx hb dL_law_804 (by decide) ?_
          exact k_808 x3 (1 : Int32) (xs (x3 + (1 : Int32)).toNatClampNeg) r_4 Z S a s9 H locs ls hf hP hD hS (lv_sub hl [0, 1, 2, 3] rfl)
      have k_920 : ∀ (x3 : Int32) (t0 : Int32) (t1 : Int32) (t2 : Int32) (t3 : Int32) (t5 : Int32) (Z : Nat → Nat → Nat) (S : Nat → CS) (a : AS) (s9 : CS) (H : Heap) (locs : List Loc) (ls : Array Slot), B_L_law_920 (fun z => ∃ k, k < n_18 ∧ I_18 k z) L xs Y x3 t0 t1 t2 t3 t5 Z S a s9 () → va_P D classes ((XW cI cZ cW Z Y (Z 1 0) (Z 2 0) S a) ++ wM cI cZ q9 s9) H → va_D A ((XW cI cZ cW Z Y (Z 1 0) (Z 2 0) S a) ++ wM cI cZ q9 s9) → va_S A s.heap H locs → lv_has ls 4 [(0, .ref b), (1, .ref (Z 0 0)), (2, .ref (q9 0)), (3, .int x3)] → W p l e room_1 s m #[Value.ref b] below meth c H locs 133 1443 (lw_Z below #[Value.ref b] s) (F0 m 920 ls [.int t0, .int t1, .int t2, .int t3, .ref (q9 0), .int t5]) := by
        intro x3 t0 t1 t2 t3 t5 Z S a s9 H locs ls hf hP hD hS hl
        unfold B_L_law_920 at hf
        have hPc : va_P D classes (wM cI cZ q9 s9) H := P_suf hP
        refine vp_callSi (W.runV (As := [.int t3, .int t2, .int t1, .int t0]) (rest := [.int t5]) ⟨hx, hb, hml, hown, hts⟩ (c_X7_passes l D cI cZ cW q9 t3 t2 t1 t0 s9 _ hf) ⟨callB_of 4 hts (gT tw_1000) rfl rfl rfl (ht _ tw_7) (ht _ tw_997) hd_X7_passes ⟨Nat.le_of_ble_eq_true rfl, Nat.le_of_ble_eq_true rfl⟩, ht _ tw_998, ht _ tw_999⟩ ⟨PR_blind, va_recv hK hPc (ci := 5) (q0 := 0) rfl eM_0, fun U hU hW => PR_mk hPc hK hU hW⟩ rfl rfl hl.1 rfl (lv_room (Nat.le_of_ble_eq_true rfl)) dL_law_920 ⟨Nat.le_of_ble_eq_true rfl, Nat.le_of_ble_eq_true rfl⟩) (fun r_8 hf => ?_)
        refine lv_icmp_eq (tgt := 1074) hx hb dL_law_923 (by decide) (fun c_9 => ?_) (fun c_9 => ?_)
        · have hf := hf.1 c_9
          exact k_1074 x3 Z S a s9 H locs ls hf hP hD hS (lv_sub hl [0, 1, 2, 3] rfl)
        · have hf := hf.2 c_9
          refine lv_iconst (v := (0 : Int32)) hx hb dL_law_926 (by decide) ?_
          exact hf.elim
      have k_888 : ∀ (x3 : Int32) (t0 : Int32) (t1 : Int32) (t2 : Int32) (t3 : Int32) (Z : Nat → Nat → Nat) (S : Nat → CS) (a : AS) (s9 : CS) (H : Heap) (locs : List Loc) (ls : Array Slot), B_L_law_888 (fun z => ∃ k, k < n_18 ∧ I_18 k z) L xs Y x3 t0 t1 t2 t3 Z S a s9 () → va_P D classes ((XW cI cZ cW Z Y (Z 1 0) (Z 2 0) S a) ++ wM cI cZ q9 s9) H → va_D A ((XW cI cZ cW Z Y (Z 1 0) (Z 2 0) S a) ++ wM cI cZ q9 s9) → va_S A s.heap H locs → lv_has ls 4 [(0, .ref b), (1, .ref (Z 0 0)), (2, .ref (q9 0)), (3, .int x3)] → W p l e room_1 s m #[Value.ref b] below meth c H locs 133 1443 (lw_Z below #[Value.ref b] s) (F0 m 888 ls [.int t0, .int t1, .int t2, .int t3, .ref (Z 0 0)]) := by
        intro x3 t0 t1 t2 t3 Z S a s9 H locs ls hf hP hD hS hl
        unfold B_L_law_888 at hf
        have hPc : va_P D classes (XW cI cZ cW Z Y (Z 1 0) (Z 2 0) S a) H := P_pre hP
        refine vp_callSi (W.runV (As := [.int t3, .int t2, .int t1, .int t0]) (rest := []) ⟨hx, hb, hml, hown, hts⟩ (c_X6_passes l D cI cZ cW Z Y t3 t2 t1 t0 S a _ hf) ⟨callB_of 4 hts (gT tw_614) rfl rfl rfl (ht _ tw_1) (ht _ tw_611) hd_X6_passes ⟨Nat.le_of_ble_eq_true rfl, Nat.le_of_ble_eq_true rfl⟩, ht _ tw_612, ht _ tw_613⟩ ⟨PR_blind, va_recv hK hPc (ci := 4) (q0 := 0) rfl eX_0, fun U hU hW => PR_mk hPc hK hU hW⟩ rfl rfl hl.1 rfl (lv_room (Nat.le_of_ble_eq_true rfl)) dL_law_888 ⟨Nat.le_of_ble_eq_true rfl, Nat.le_of_ble_eq_true rfl⟩) (fun r_10 hf => ?_)
        refine lv_aload_n hx hb dL_law_891 rfl (lv_at hl 2 rfl) ?_
        refine lv_aload_n hx hb dL_law_892 rfl (lv_at hl 0 rfl) ?_
        refine lv_iload_n hx hb dL_law_893 rfl (lv_at hl 3 rfl) ?_
        refine lv_iconst (v := (1 : Int32)) hx hb dL_law_894 (by decide) ?_
        refine lv_iadd hx hb dL_law_895 ?_
        obtain ⟨hi_11, hf⟩ := hf
        refine va_sld hx hb hX hbl hbA hS hi_11 dL_law_896 ?_
        refine lv_aload_n hx hb dL_law_897 rfl (lv_at hl 0 rfl) ?_
        refine lv_iload_n hx hb dL_law_898 rfl (lv_at hl 3 rfl) ?_
        refine lv_iconst (v := (2 : Int32)) hx hb dL_law_899 (by decide) ?_
        refine lv_iadd hx hb dL_law_900 ?_
        obtain ⟨hi_12, hf⟩ := hf
        refine va_sld hx hb hX hbl hbA hS hi_12 dL_law_901 ?_
        refine lv_aload_n hx hb dL_law_902 rfl (lv_at hl 0 rfl) ?_
        refine lv_iload_n hx hb dL_law_903 rfl (lv_at hl 3 rfl) ?_
        refine lv_iconst (v := (3 : Int32)) hx hb dL_law_904 (by decide) ?_
        refine lv_iadd hx hb dL_law_905 ?_
        obtain ⟨hi_13, hf⟩ := hf
        refine va_sld hx hb hX hbl hbA hS hi_13 dL_law_906 ?_
        refine lv_aload_n hx hb dL_law_907 rfl (lv_at hl 0 rfl) ?_
        refine lv_iload_n hx hb dL_law_908 rfl (lv_at hl 3 rfl) ?_
        refine lv_iconst (v := (4 : Int32)) hx hb dL_law_909 (by decide) ?_
        refine lv_iadd hx hb dL_law_910 ?_
        obtain ⟨hi_14, hf⟩ := hf
        refine va_sld hx hb hX hbl hbA hS hi_14 dL_law_911 ?_
        refine lv_if_eq (tgt := 919) hx hb dL_law_912 (by decide) (fun c_15 => ?_) (fun c_15 => ?_)
        · have hf := hf.1 c_15
          refine lv_iconst (v := (0 : Int32)) hx hb dL_law_919 (by decide) ?_
          exact k_920 x3 (0 : Int32) (xs (x3 + (3 : Int32)).toNatClampNeg) (xs (x3 + (2 : Int32)).toNatClampNeg) (xs (x3 + (1 : Int32)).toNatClampNeg) r_10 Z S a s9 H locs ls hf hP hD hS (lv_sub hl [0, 1, 2, 3] rfl)
        · have hf := hf.2 c_15
          refine lv_iconst (v := (1 : Int32)) hx hb dL_law_915 (by decide) ?_
          refine lv_goto (tgt := 920) hx hb dL_law_916 (by decide) ?_
          exact k_920 x3 (1 : Int32) (xs (x3 + (3 : Int32)).toNatClampNeg) (xs (x3 + (2 : Int32)).toNatClampNeg) (xs (x3 + (1 : Int32)).toNatClampNeg) r_10 Z S a s9 H locs ls hf hP hD hS (lv_sub hl [0, 1, 2, 3] rfl)
      refine lv_iload_n hx hb dL_law_18 rfl (lv_at hl 3 rfl) ?_
      refine lv_aload_n hx hb dL_law_19 rfl (lv_at hl 0 rfl) ?_
      refine va_slen hx hb hX hbl hbA hS dL_law_20 ?_
      refine lv_iconst (v := (5 : Int32)) hx hb dL_law_21 (by decide) ?_
      refine lv_isub hx hb dL_law_22 ?_
      refine lv_icmp_gt (tgt := 1080) hx hb dL_law_23 (by decide) (fun c_16 => ?_) (fun c_16 => ?_)
      · have hf := hf.1 c_16
        refine lv_iconst (v := (1 : Int32)) hx hb dL_law_1080 (by decide) ?_
        refine va_forget (fun q h => by have h2 := hS.2.2 q h; rw [hAe] at h2; exact h2) ?_
        refine W.widen (k := 600000) (n := 7302250) (by decide) (by decide) ?_
        exact lw_ret hx hb hr hlocks dL_law_1081
      · have hf := hf.2 c_16
        refine lv_aload_n hx hb dL_law_26 rfl (lv_at hl 0 rfl) ?_
        refine lv_iload_n hx hb dL_law_27 rfl (lv_at hl 3 rfl) ?_
        obtain ⟨hi_17, hf⟩ := hf
        refine va_sld hx hb hX hbl hbA hS hi_17 dL_law_28 ?_
        refine lv_bipush (v := (31 : Int32)) hx hb dL_law_29 (by decide) ?_
        refine lv_iand hx hb dL_law_31 ?_
        by_cases c_18 : ((xs x3.toNatClampNeg) &&& (31 : Int32)) = (0 : Int32)
        · have hf := hf.1 c_18
          refine lv_tableIn (off := 132) (tgt := 164) hx hb dL_law_32 (by rw [c_18]; decide) (by rw [c_18]; decide) (by rw [c_18]; first | done | rfl) (by decide) ?_
          refine lv_aload_n hx hb dL_law_164 rfl (lv_at hl 1 rfl) ?_
          refine lv_aload_n hx hb dL_law_165 rfl (lv_at hl 0 rfl) ?_
          refine lv_iload_n hx hb dL_law_166 rfl (lv_at hl 3 rfl) ?_
          refine lv_iconst (v := (1 : Int32)) hx hb dL_law_167 (by decide) ?_
          refine lv_iadd hx hb dL_law_168 ?_
          obtain ⟨hi_19, hf⟩ := hf
          refine va_sld hx hb hX hbl hbA hS hi_19 dL_law_169 ?_
          have hPc : va_P D classes (XW cI cZ cW Z Y (Z 1 0) (Z 2 0) S a) H := P_pre hP
          have hDc : va_D A (XW cI cZ cW Z Y (Z 1 0) (Z 2 0) S a) := D_pre hD
          have hFc := va_freeX hDc hS hA
          refine va_calli (va_runV (As := [.int (xs (x3 + (1 : Int32)).toNatClampNeg)]) (rest := []) ⟨hx, hb, hml, hown, hts⟩ (c_X6_write l D cI cZ cW Z Y H.size (xs (x3 + (1 : Int32)).toNatClampNeg) S a _ hf) ⟨callB_of 1 hts (gT tw_193) rfl rfl rfl (ht _ tw_1) (ht _ tw_190) hd_X6_write ⟨Nat.le_of_ble_eq_true rfl, Nat.le_of_ble_eq_true rfl⟩, ht _ tw_191, ht _ tw_192⟩ ⟨PW_blind, va_recv hK hPc (ci := 4) (q0 := 0) rfl eX_0, fun U hU hW => PW_mk hPc hDc hK hU hW⟩ rfl rfl hl.1 rfl (lv_room (Nat.le_of_ble_eq_true rfl)) dL_law_170 ⟨Nat.le_of_ble_eq_true rfl, Nat.le_of_ble_eq_true rfl⟩) hS (fun q _ h => hFc q h) hFc (fun r_20 u t H1 locs ht1 hvm hf hB hz1 hk1 hS => ?_)
          obtain ⟨S_21, a_22⟩ := u
          dsimp only at hf hB
          rw [ht1] at hB
          have hP := cjP hP hD hk1 hB
          have hD : va_D A ((XW cI cZ cW Z Y (Z 1 0) (Z 2 0) S_21 a_22) ++ wM cI cZ q9 s9) := D_L hD
          generalize H1 = H at hP hS ⊢
          refine W.eq (g2 := F0 m 173 ls [.int r_20]) rfl ?_
          refine lv_aload_n hx hb dL_law_173 rfl (lv_at hl 2 rfl) ?_
          refine lv_aload_n hx hb dL_law_174 rfl (lv_at hl 0 rfl) ?_
          refine lv_iload_n hx hb dL_law_175 rfl (lv_at hl 3 rfl) ?_
          refine lv_iconst (v := (1 : Int32)) hx hb dL_law_176 (by decide) ?_
          refine lv_iadd hx hb dL_law_177 ?_
          obtain ⟨hi_23, hf⟩ := hf
          refine va_sld hx hb hX hbl hbA hS hi_23 dL_law_178 ?_
          have hPc : va_P D classes (wM cI cZ q9 s9) H := P_suf hP
          have hDc : va_D A (wM cI cZ q9 s9) := D_suf hD
          have hFc := va_freeX hDc hS hA
          refine va_calli (va_runV (As := [.int (xs (x3 + (1 : Int32)).toNatClampNeg)]) (rest := [.int r_20]) ⟨hx, hb, hml, hown, hts⟩ (c_X7_write l D cI cZ cW q9 H.size (xs (x3 + (1 : Int32)).toNatClampNeg) s9 _ hf) ⟨callB_of 1 hts (gT tw_743) rfl rfl rfl (ht _ tw_7) (ht _ tw_740) hd_X7_write ⟨Nat.le_of_ble_eq_true rfl, Nat.le_of_ble_eq_true rfl⟩, ht _ tw_741, ht _ tw_742⟩ ⟨PW_blind, va_recv hK hPc (ci := 5) (q0 := 0) rfl eM_0, fun U hU hW => PW_mk hPc hDc hK hU hW⟩ rfl rfl hl.1 rfl (lv_room (Nat.le_of_ble_eq_true rfl)) dL_law_179 ⟨Nat.le_of_ble_eq_true rfl, Nat.le_of_ble_eq_true rfl⟩) hS (fun q _ h => hFc q h) hFc (fun r_24 u t H1 locs ht1 hvm hf hB hz1 hk1 hS => ?_)
          obtain ⟨s9_25, rfl⟩ : ∃ z, z = u := ⟨_, rfl⟩
          rw [ht1] at hB
          have hP := cjT hP hD hk1 hB
          have hD : va_D A ((XW cI cZ cW Z Y (Z 1 0) (Z 2 0) S_21 a_22) ++ wM cI cZ q9 s9_25) := D_L hD
          generalize H1 = H at hP hS ⊢
          refine W.eq (g2 := F0 m 182 ls [.int r_24, .int r_20]) rfl ?_
          refine lv_icmp_eq (tgt := 1074) hx hb dL_law_182 (by decide) (fun c_26 => ?_) (fun c_26 => ?_)
          · have hf := hf.1 c_26
            exact k_1074 x3 Z S_21 a_22 s9_25 H locs ls hf hP hD hS (lv_sub hl [0, 1, 2, 3] rfl)
          · have hf := hf.2 c_26
            refine lv_iconst (v := (0 : Int32)) hx hb dL_law_185 (by decide) ?_
            exact hf.elim
        · have hf := hf.2 c_18
          by_cases c_27 : ((xs x3.toNatClampNeg) &&& (31 : Int32)) = (1 : Int32)
          · have hf := hf.1 c_27
            refine lv_tableIn (off := 155) (tgt := 187) hx hb dL_law_32 (by rw [c_27]; decide) (by rw [c_27]; decide) (by rw [c_27]; first | done | rfl) (by decide) ?_
            refine lv_aload_n hx hb dL_law_187 rfl (lv_at hl 1 rfl) ?_
            have hPc : va_P D classes (XW cI cZ cW Z Y (Z 1 0) (Z 2 0) S a) H := P_pre hP
            have hDc : va_D A (XW cI cZ cW Z Y (Z 1 0) (Z 2 0) S a) := D_pre hD
            have hFc := va_freeX hDc hS hA
            refine va_calli (va_runV (As := []) (rest := []) ⟨hx, hb, hml, hown, hts⟩ (c_X6_wipe l D cI cZ cW Z Y H.size S a _ hf) ⟨callB_of 0 hts (gT tw_197) rfl rfl rfl (ht _ tw_1) (ht _ tw_194) hd_X6_wipe ⟨Nat.le_of_ble_eq_true rfl, Nat.le_of_ble_eq_true rfl⟩, ht _ tw_195, ht _ tw_196⟩ ⟨PW_blind, va_recv hK hPc (ci := 4) (q0 := 0) rfl eX_0, fun U hU hW => PW_mk hPc hDc hK hU hW⟩ rfl rfl hl.1 rfl (lv_room (Nat.le_of_ble_eq_true rfl)) dL_law_188 ⟨Nat.le_of_ble_eq_true rfl, Nat.le_of_ble_eq_true rfl⟩) hS (fun q _ h => hFc q h) hFc (fun r_28 u t H1 locs ht1 hvm hf hB hz1 hk1 hS => ?_)
            obtain ⟨S_29, a_30⟩ := u
            dsimp only at hf hB
            rw [ht1] at hB
            have hP := cjP hP hD hk1 hB
            have hD : va_D A ((XW cI cZ cW Z Y (Z 1 0) (Z 2 0) S_29 a_30) ++ wM cI cZ q9 s9) := D_L hD
            generalize H1 = H at hP hS ⊢
            refine W.eq (g2 := F0 m 191 ls [.int r_28]) rfl ?_
            refine lv_aload_n hx hb dL_law_191 rfl (lv_at hl 2 rfl) ?_
            have hPc : va_P D classes (wM cI cZ q9 s9) H := P_suf hP
            have hDc : va_D A (wM cI cZ q9 s9) := D_suf hD
            have hFc := va_freeX hDc hS hA
            refine va_calli (va_runV (As := []) (rest := [.int r_28]) ⟨hx, hb, hml, hown, hts⟩ (c_X7_wipe l D cI cZ cW q9 H.size s9 _ hf) ⟨callB_of 0 hts (gT tw_751) rfl rfl rfl (ht _ tw_7) (ht _ tw_748) hd_X7_wipe ⟨Nat.le_of_ble_eq_true rfl, Nat.le_of_ble_eq_true rfl⟩, ht _ tw_749, ht _ tw_750⟩ ⟨PW_blind, va_recv hK hPc (ci := 5) (q0 := 0) rfl eM_0, fun U hU hW => PW_mk hPc hDc hK hU hW⟩ rfl rfl hl.1 rfl (lv_room (Nat.le_of_ble_eq_true rfl)) dL_law_192 ⟨Nat.le_of_ble_eq_true rfl, Nat.le_of_ble_eq_true rfl⟩) hS (fun q _ h => hFc q h) hFc (fun r_31 u t H1 locs ht1 hvm hf hB hz1 hk1 hS => ?_)
            obtain ⟨s9_32, rfl⟩ : ∃ z, z = u := ⟨_, rfl⟩
            rw [ht1] at hB
            have hP := cjT hP hD hk1 hB
            have hD : va_D A ((XW cI cZ cW Z Y (Z 1 0) (Z 2 0) S_29 a_30) ++ wM cI cZ q9 s9_32) := D_L hD
            generalize H1 = H at hP hS ⊢
            refine W.eq (g2 := F0 m 195 ls [.int r_31, .int r_28]) rfl ?_
            refine lv_icmp_eq (tgt := 1074) hx hb dL_law_195 (by decide) (fun c_33 => ?_) (fun c_33 => ?_)
            · have hf := hf.1 c_33
              exact k_1074 x3 Z S_29 a_30 s9_32 H locs ls hf hP hD hS (lv_sub hl [0, 1, 2, 3] rfl)
            · have hf := hf.2 c_33
              refine lv_iconst (v := (0 : Int32)) hx hb dL_law_198 (by decide) ?_
              exact hf.elim
          · have hf := hf.2 c_27
            by_cases c_34 : ((xs x3.toNatClampNeg) &&& (31 : Int32)) = (2 : Int32)
            · have hf := hf.1 c_34
              refine lv_tableIn (off := 168) (tgt := 200) hx hb dL_law_32 (by rw [c_34]; decide) (by rw [c_34]; decide) (by rw [c_34]; first | done | rfl) (by decide) ?_
              refine lv_aload_n hx hb dL_law_200 rfl (lv_at hl 1 rfl) ?_
              have hPc : va_P D classes (XW cI cZ cW Z Y (Z 1 0) (Z 2 0) S a) H := P_pre hP
              have hDc : va_D A (XW cI cZ cW Z Y (Z 1 0) (Z 2 0) S a) := D_pre hD
              have hFc := va_freeX hDc hS hA
              refine va_calli (va_runV (As := []) (rest := []) ⟨hx, hb, hml, hown, hts⟩ (c_X6_fault l D cI cZ cW Z Y H.size S a _ hf) ⟨callB_of 0 hts (gT tw_201) rfl rfl rfl (ht _ tw_1) (ht _ tw_198) hd_X6_fault ⟨Nat.le_of_ble_eq_true rfl, Nat.le_of_ble_eq_true rfl⟩, ht _ tw_199, ht _ tw_200⟩ ⟨PW_blind, va_recv hK hPc (ci := 4) (q0 := 0) rfl eX_0, fun U hU hW => PW_mk hPc hDc hK hU hW⟩ rfl rfl hl.1 rfl (lv_room (Nat.le_of_ble_eq_true rfl)) dL_law_201 ⟨Nat.le_of_ble_eq_true rfl, Nat.le_of_ble_eq_true rfl⟩) hS (fun q _ h => hFc q h) hFc (fun r_35 u t H1 locs ht1 hvm hf hB hz1 hk1 hS => ?_)
              obtain ⟨S_36, a_37⟩ := u
              dsimp only at hf hB
              rw [ht1] at hB
              have hP := cjP hP hD hk1 hB
              have hD : va_D A ((XW cI cZ cW Z Y (Z 1 0) (Z 2 0) S_36 a_37) ++ wM cI cZ q9 s9) := D_L hD
              generalize H1 = H at hP hS ⊢
              refine W.eq (g2 := F0 m 204 ls [.int r_35]) rfl ?_
              refine lv_aload_n hx hb dL_law_204 rfl (lv_at hl 2 rfl) ?_
              have hPc : va_P D classes (wM cI cZ q9 s9) H := P_suf hP
              have hDc : va_D A (wM cI cZ q9 s9) := D_suf hD
              have hFc := va_freeX hDc hS hA
              refine va_calli (va_runV (As := []) (rest := [.int r_35]) ⟨hx, hb, hml, hown, hts⟩ (c_X7_fault l D cI cZ cW q9 H.size s9 _ hf) ⟨callB_of 0 hts (gT tw_755) rfl rfl rfl (ht _ tw_7) (ht _ tw_752) hd_X7_fault ⟨Nat.le_of_ble_eq_true rfl, Nat.le_of_ble_eq_true rfl⟩, ht _ tw_753, ht _ tw_754⟩ ⟨PW_blind, va_recv hK hPc (ci := 5) (q0 := 0) rfl eM_0, fun U hU hW => PW_mk hPc hDc hK hU hW⟩ rfl rfl hl.1 rfl (lv_room (Nat.le_of_ble_eq_true rfl)) dL_law_205 ⟨Nat.le_of_ble_eq_true rfl, Nat.le_of_ble_eq_true rfl⟩) hS (fun q _ h => hFc q h) hFc (fun r_38 u t H1 locs ht1 hvm hf hB hz1 hk1 hS => ?_)
              obtain ⟨s9_39, rfl⟩ : ∃ z, z = u := ⟨_, rfl⟩
              rw [ht1] at hB
              have hP := cjT hP hD hk1 hB
              have hD : va_D A ((XW cI cZ cW Z Y (Z 1 0) (Z 2 0) S_36 a_37) ++ wM cI cZ q9 s9_39) := D_L hD
              generalize H1 = H at hP hS ⊢
              refine W.eq (g2 := F0 m 208 ls [.int r_38, .int r_35]) rfl ?_
              refine lv_icmp_eq (tgt := 1074) hx hb dL_law_208 (by decide) (fun c_40 => ?_) (fun c_40 => ?_)
              · have hf := hf.1 c_40
                exact k_1074 x3 Z S_36 a_37 s9_39 H locs ls hf hP hD hS (lv_sub hl [0, 1, 2, 3] rfl)
              · have hf := hf.2 c_40
                refine lv_iconst (v := (0 : Int32)) hx hb dL_law_211 (by decide) ?_
                exact hf.elim
            · have hf := hf.2 c_34
              by_cases c_41 : ((xs x3.toNatClampNeg) &&& (31 : Int32)) = (3 : Int32)
              · have hf := hf.1 c_41
                refine lv_tableIn (off := 181) (tgt := 213) hx hb dL_law_32 (by rw [c_41]; decide) (by rw [c_41]; decide) (by rw [c_41]; first | done | rfl) (by decide) ?_
                refine lv_aload_n hx hb dL_law_213 rfl (lv_at hl 1 rfl) ?_
                have hPc : va_P D classes (XW cI cZ cW Z Y (Z 1 0) (Z 2 0) S a) H := P_pre hP
                have hDc : va_D A (XW cI cZ cW Z Y (Z 1 0) (Z 2 0) S a) := D_pre hD
                have hFc := va_freeX hDc hS hA
                refine va_calli (va_runV (As := []) (rest := []) ⟨hx, hb, hml, hown, hts⟩ (c_X6_dairy l D cI cZ cW Z Y H.size S a _ hf) ⟨callB_of 0 hts (gT tw_257) rfl rfl rfl (ht _ tw_1) (ht _ tw_254) hd_X6_dairy ⟨Nat.le_of_ble_eq_true rfl, Nat.le_of_ble_eq_true rfl⟩, ht _ tw_255, ht _ tw_256⟩ ⟨PW_blind, va_recv hK hPc (ci := 4) (q0 := 0) rfl eX_0, fun U hU hW => PW_mk hPc hDc hK hU hW⟩ rfl rfl hl.1 rfl (lv_room (Nat.le_of_ble_eq_true rfl)) dL_law_214 ⟨Nat.le_of_ble_eq_true rfl, Nat.le_of_ble_eq_true rfl⟩) hS (fun q _ h => hFc q h) hFc (fun r_42 u t H1 locs ht1 hvm hf hB hz1 hk1 hS => ?_)
                obtain ⟨Z_43, S_44, a_45⟩ := u
                dsimp only at hf hB
                obtain ⟨hB, hDB⟩ := hB
                rw [ht1] at hB
                have hDn := cjQ hP hD hFc hDB (suf := wM cI cZ q9 s9)
                have hP := cjP hP hD hk1 hB
                have hD := hDn
                clear hDn
                obtain ⟨hz_46, hf⟩ := hf
                rw [← hz_46] at hl
                generalize H1 = H at hP hS ⊢
                refine W.eq (g2 := F0 m 217 ls [.int r_42]) rfl ?_
                refine lv_aload_n hx hb dL_law_217 rfl (lv_at hl 2 rfl) ?_
                have hPc : va_P D classes (wM cI cZ q9 s9) H := P_suf hP
                have hDc : va_D A (wM cI cZ q9 s9) := D_suf hD
                have hFc := va_freeX hDc hS hA
                refine va_calli (va_runV (As := []) (rest := [.int r_42]) ⟨hx, hb, hml, hown, hts⟩ (c_X7_dairy l D cI cZ cW q9 H.size s9 _ hf) ⟨callB_of 0 hts (gT tw_776) rfl rfl rfl (ht _ tw_7) (ht _ tw_773) hd_X7_dairy ⟨Nat.le_of_ble_eq_true rfl, Nat.le_of_ble_eq_true rfl⟩, ht _ tw_774, ht _ tw_775⟩ ⟨PW_blind, va_recv hK hPc (ci := 5) (q0 := 0) rfl eM_0, fun U hU hW => PW_mk hPc hDc hK hU hW⟩ rfl rfl hl.1 rfl (lv_room (Nat.le_of_ble_eq_true rfl)) dL_law_218 ⟨Nat.le_of_ble_eq_true rfl, Nat.le_of_ble_eq_true rfl⟩) hS (fun q _ h => hFc q h) hFc (fun r_47 u t H1 locs ht1 hvm hf hB hz1 hk1 hS => ?_)
                obtain ⟨s9_48, rfl⟩ : ∃ z, z = u := ⟨_, rfl⟩
                rw [ht1] at hB
                have hP := cjT hP hD hk1 hB
                have hD : va_D A ((XW cI cZ cW Z_43 Y (Z_43 1 0) (Z_43 2 0) S_44 a_45) ++ wM cI cZ q9 s9_48) := D_L hD
                generalize H1 = H at hP hS ⊢
                refine W.eq (g2 := F0 m 221 ls [.int r_47, .int r_42]) rfl ?_
                refine lv_icmp_eq (tgt := 1074) hx hb dL_law_221 (by decide) (fun c_49 => ?_) (fun c_49 => ?_)
                · have hf := hf.1 c_49
                  exact k_1074 x3 Z_43 S_44 a_45 s9_48 H locs ls hf hP hD hS (lv_sub hl [0, 1, 2, 3] rfl)
                · have hf := hf.2 c_49
                  refine lv_iconst (v := (0 : Int32)) hx hb dL_law_224 (by decide) ?_
                  exact hf.elim
              · have hf := hf.2 c_41
                by_cases c_50 : ((xs x3.toNatClampNeg) &&& (31 : Int32)) = (4 : Int32)
                · have hf := hf.1 c_50
                  refine lv_tableIn (off := 194) (tgt := 226) hx hb dL_law_32 (by rw [c_50]; decide) (by rw [c_50]; decide) (by rw [c_50]; first | done | rfl) (by decide) ?_
                  refine lv_aload_n hx hb dL_law_226 rfl (lv_at hl 1 rfl) ?_
                  refine lv_aload_n hx hb dL_law_227 rfl (lv_at hl 0 rfl) ?_
                  refine lv_iload_n hx hb dL_law_228 rfl (lv_at hl 3 rfl) ?_
                  refine lv_iconst (v := (1 : Int32)) hx hb dL_law_229 (by decide) ?_
                  refine lv_iadd hx hb dL_law_230 ?_
                  obtain ⟨hi_51, hf⟩ := hf
                  refine va_sld hx hb hX hbl hbA hS hi_51 dL_law_231 ?_
                  refine lv_aload_n hx hb dL_law_232 rfl (lv_at hl 0 rfl) ?_
                  refine lv_iload_n hx hb dL_law_233 rfl (lv_at hl 3 rfl) ?_
                  refine lv_iconst (v := (2 : Int32)) hx hb dL_law_234 (by decide) ?_
                  refine lv_iadd hx hb dL_law_235 ?_
                  obtain ⟨hi_52, hf⟩ := hf
                  refine va_sld hx hb hX hbl hbA hS hi_52 dL_law_236 ?_
                  have hPc : va_P D classes (XW cI cZ cW Z Y (Z 1 0) (Z 2 0) S a) H := P_pre hP
                  refine vp_callSi (W.runV (As := [.int (xs (x3 + (1 : Int32)).toNatClampNeg), .int (xs (x3 + (2 : Int32)).toNatClampNeg)]) (rest := []) ⟨hx, hb, hml, hown, hts⟩ (c_X6_owner l D cI cZ cW Z Y (xs (x3 + (1 : Int32)).toNatClampNeg) (xs (x3 + (2 : Int32)).toNatClampNeg) S a _ hf) ⟨callB_of 2 hts (gT tw_274) rfl rfl rfl (ht _ tw_1) (ht _ tw_271) hd_X6_owner ⟨Nat.le_of_ble_eq_true rfl, Nat.le_of_ble_eq_true rfl⟩, ht _ tw_272, ht _ tw_273⟩ ⟨PR_blind, va_recv hK hPc (ci := 4) (q0 := 0) rfl eX_0, fun U hU hW => PR_mk hPc hK hU hW⟩ rfl rfl hl.1 rfl (lv_room (Nat.le_of_ble_eq_true rfl)) dL_law_237 ⟨Nat.le_of_ble_eq_true rfl, Nat.le_of_ble_eq_true rfl⟩) (fun r_53 hf => ?_)
                  refine lv_aload_n hx hb dL_law_240 rfl (lv_at hl 2 rfl) ?_
                  refine lv_aload_n hx hb dL_law_241 rfl (lv_at hl 0 rfl) ?_
                  refine lv_iload_n hx hb dL_law_242 rfl (lv_at hl 3 rfl) ?_
                  refine lv_iconst (v := (1 : Int32)) hx hb dL_law_243 (by decide) ?_
                  refine lv_iadd hx hb dL_law_244 ?_
                  obtain ⟨hi_54, hf⟩ := hf
                  refine va_sld hx hb hX hbl hbA hS hi_54 dL_law_245 ?_
                  refine lv_aload_n hx hb dL_law_246 rfl (lv_at hl 0 rfl) ?_
                  refine lv_iload_n hx hb dL_law_247 rfl (lv_at hl 3 rfl) ?_
                  refine lv_iconst (v := (2 : Int32)) hx hb dL_law_248 (by decide) ?_
                  refine lv_iadd hx hb dL_law_249 ?_
                  obtain ⟨hi_55, hf⟩ := hf
                  refine va_sld hx hb hX hbl hbA hS hi_55 dL_law_250 ?_
                  have hPc : va_P D classes (wM cI cZ q9 s9) H := P_suf hP
                  refine vp_callSi (W.runV (As := [.int (xs (x3 + (1 : Int32)).toNatClampNeg), .int (xs (x3 + (2 : Int32)).toNatClampNeg)]) (rest := [.int r_53]) ⟨hx, hb, hml, hown, hts⟩ (c_X7_owner l D cI cZ cW q9 (xs (x3 + (1 : Int32)).toNatClampNeg) (xs (x3 + (2 : Int32)).toNatClampNeg) s9 _ hf) ⟨callB_of 2 hts (gT tw_780) rfl rfl rfl (ht _ tw_7) (ht _ tw_777) hd_X7_owner ⟨Nat.le_of_ble_eq_true rfl, Nat.le_of_ble_eq_true rfl⟩, ht _ tw_778, ht _ tw_779⟩ ⟨PR_blind, va_recv hK hPc (ci := 5) (q0 := 0) rfl eM_0, fun U hU hW => PR_mk hPc hK hU hW⟩ rfl rfl hl.1 rfl (lv_room (Nat.le_of_ble_eq_true rfl)) dL_law_251 ⟨Nat.le_of_ble_eq_true rfl, Nat.le_of_ble_eq_true rfl⟩) (fun r_56 hf => ?_)
                  refine lv_icmp_eq (tgt := 1074) hx hb dL_law_254 (by decide) (fun c_57 => ?_) (fun c_57 => ?_)
                  · have hf := hf.1 c_57
                    exact k_1074 x3 Z S a s9 H locs ls hf hP hD hS (lv_sub hl [0, 1, 2, 3] rfl)
                  · have hf := hf.2 c_57
                    refine lv_iconst (v := (0 : Int32)) hx hb dL_law_257 (by decide) ?_
                    exact hf.elim
                · have hf := hf.2 c_50
                  by_cases c_58 : ((xs x3.toNatClampNeg) &&& (31 : Int32)) = (5 : Int32)
                  · have hf := hf.1 c_58
                    refine lv_tableIn (off := 227) (tgt := 259) hx hb dL_law_32 (by rw [c_58]; decide) (by rw [c_58]; decide) (by rw [c_58]; first | done | rfl) (by decide) ?_
                    refine lv_aload_n hx hb dL_law_259 rfl (lv_at hl 1 rfl) ?_
                    refine lv_aload_n hx hb dL_law_260 rfl (lv_at hl 0 rfl) ?_
                    refine lv_iload_n hx hb dL_law_261 rfl (lv_at hl 3 rfl) ?_
                    refine lv_iconst (v := (1 : Int32)) hx hb dL_law_262 (by decide) ?_
                    refine lv_iadd hx hb dL_law_263 ?_
                    obtain ⟨hi_59, hf⟩ := hf
                    refine va_sld hx hb hX hbl hbA hS hi_59 dL_law_264 ?_
                    refine lv_aload_n hx hb dL_law_265 rfl (lv_at hl 0 rfl) ?_
                    refine lv_iload_n hx hb dL_law_266 rfl (lv_at hl 3 rfl) ?_
                    refine lv_iconst (v := (2 : Int32)) hx hb dL_law_267 (by decide) ?_
                    refine lv_iadd hx hb dL_law_268 ?_
                    obtain ⟨hi_60, hf⟩ := hf
                    refine va_sld hx hb hX hbl hbA hS hi_60 dL_law_269 ?_
                    have hPc : va_P D classes (XW cI cZ cW Z Y (Z 1 0) (Z 2 0) S a) H := P_pre hP
                    refine vp_callSi (W.runV (As := [.int (xs (x3 + (1 : Int32)).toNatClampNeg), .int (xs (x3 + (2 : Int32)).toNatClampNeg)]) (rest := []) ⟨hx, hb, hml, hown, hts⟩ (c_X6_hole l D cI cZ cW Z Y (xs (x3 + (1 : Int32)).toNatClampNeg) (xs (x3 + (2 : Int32)).toNatClampNeg) S a _ hf) ⟨callB_of 2 hts (gT tw_312) rfl rfl rfl (ht _ tw_1) (ht _ tw_309) hd_X6_hole ⟨Nat.le_of_ble_eq_true rfl, Nat.le_of_ble_eq_true rfl⟩, ht _ tw_310, ht _ tw_311⟩ ⟨PR_blind, va_recv hK hPc (ci := 4) (q0 := 0) rfl eX_0, fun U hU hW => PR_mk hPc hK hU hW⟩ rfl rfl hl.1 rfl (lv_room (Nat.le_of_ble_eq_true rfl)) dL_law_270 ⟨Nat.le_of_ble_eq_true rfl, Nat.le_of_ble_eq_true rfl⟩) (fun r_61 hf => ?_)
                    refine lv_aload_n hx hb dL_law_273 rfl (lv_at hl 2 rfl) ?_
                    refine lv_aload_n hx hb dL_law_274 rfl (lv_at hl 0 rfl) ?_
                    refine lv_iload_n hx hb dL_law_275 rfl (lv_at hl 3 rfl) ?_
                    refine lv_iconst (v := (1 : Int32)) hx hb dL_law_276 (by decide) ?_
                    refine lv_iadd hx hb dL_law_277 ?_
                    obtain ⟨hi_62, hf⟩ := hf
                    refine va_sld hx hb hX hbl hbA hS hi_62 dL_law_278 ?_
                    refine lv_aload_n hx hb dL_law_279 rfl (lv_at hl 0 rfl) ?_
                    refine lv_iload_n hx hb dL_law_280 rfl (lv_at hl 3 rfl) ?_
                    refine lv_iconst (v := (2 : Int32)) hx hb dL_law_281 (by decide) ?_
                    refine lv_iadd hx hb dL_law_282 ?_
                    obtain ⟨hi_63, hf⟩ := hf
                    refine va_sld hx hb hX hbl hbA hS hi_63 dL_law_283 ?_
                    have hPc : va_P D classes (wM cI cZ q9 s9) H := P_suf hP
                    refine vp_callSi (W.runV (As := [.int (xs (x3 + (1 : Int32)).toNatClampNeg), .int (xs (x3 + (2 : Int32)).toNatClampNeg)]) (rest := [.int r_61]) ⟨hx, hb, hml, hown, hts⟩ (c_X7_hole l D cI cZ cW q9 (xs (x3 + (1 : Int32)).toNatClampNeg) (xs (x3 + (2 : Int32)).toNatClampNeg) s9 _ hf) ⟨callB_of 2 hts (gT tw_799) rfl rfl rfl (ht _ tw_7) (ht _ tw_796) hd_X7_hole ⟨Nat.le_of_ble_eq_true rfl, Nat.le_of_ble_eq_true rfl⟩, ht _ tw_797, ht _ tw_798⟩ ⟨PR_blind, va_recv hK hPc (ci := 5) (q0 := 0) rfl eM_0, fun U hU hW => PR_mk hPc hK hU hW⟩ rfl rfl hl.1 rfl (lv_room (Nat.le_of_ble_eq_true rfl)) dL_law_284 ⟨Nat.le_of_ble_eq_true rfl, Nat.le_of_ble_eq_true rfl⟩) (fun r_64 hf => ?_)
                    refine lv_icmp_eq (tgt := 1074) hx hb dL_law_287 (by decide) (fun c_65 => ?_) (fun c_65 => ?_)
                    · have hf := hf.1 c_65
                      exact k_1074 x3 Z S a s9 H locs ls hf hP hD hS (lv_sub hl [0, 1, 2, 3] rfl)
                    · have hf := hf.2 c_65
                      refine lv_iconst (v := (0 : Int32)) hx hb dL_law_290 (by decide) ?_
                      exact hf.elim
                  · have hf := hf.2 c_58
                    by_cases c_66 : ((xs x3.toNatClampNeg) &&& (31 : Int32)) = (6 : Int32)
                    · have hf := hf.1 c_66
                      refine lv_tableIn (off := 260) (tgt := 292) hx hb dL_law_32 (by rw [c_66]; decide) (by rw [c_66]; decide) (by rw [c_66]; first | done | rfl) (by decide) ?_
                      refine lv_aload_n hx hb dL_law_292 rfl (lv_at hl 1 rfl) ?_
                      refine lv_aload_n hx hb dL_law_293 rfl (lv_at hl 0 rfl) ?_
                      refine lv_iload_n hx hb dL_law_294 rfl (lv_at hl 3 rfl) ?_
                      refine lv_iconst (v := (1 : Int32)) hx hb dL_law_295 (by decide) ?_
                      refine lv_iadd hx hb dL_law_296 ?_
                      obtain ⟨hi_67, hf⟩ := hf
                      refine va_sld hx hb hX hbl hbA hS hi_67 dL_law_297 ?_
                      refine lv_aload_n hx hb dL_law_298 rfl (lv_at hl 0 rfl) ?_
                      refine lv_iload_n hx hb dL_law_299 rfl (lv_at hl 3 rfl) ?_
                      refine lv_iconst (v := (2 : Int32)) hx hb dL_law_300 (by decide) ?_
                      refine lv_iadd hx hb dL_law_301 ?_
                      obtain ⟨hi_68, hf⟩ := hf
                      refine va_sld hx hb hX hbl hbA hS hi_68 dL_law_302 ?_
                      have hPc : va_P D classes (XW cI cZ cW Z Y (Z 1 0) (Z 2 0) S a) H := P_pre hP
                      refine vp_callSi (W.runV (As := [.int (xs (x3 + (1 : Int32)).toNatClampNeg), .int (xs (x3 + (2 : Int32)).toNatClampNeg)]) (rest := []) ⟨hx, hb, hml, hown, hts⟩ (c_X6_cell l D cI cZ cW Z Y (xs (x3 + (1 : Int32)).toNatClampNeg) (xs (x3 + (2 : Int32)).toNatClampNeg) S a _ hf) ⟨callB_of 2 hts (gT tw_327) rfl rfl rfl (ht _ tw_1) (ht _ tw_324) hd_X6_cell ⟨Nat.le_of_ble_eq_true rfl, Nat.le_of_ble_eq_true rfl⟩, ht _ tw_325, ht _ tw_326⟩ ⟨PR_blind, va_recv hK hPc (ci := 4) (q0 := 0) rfl eX_0, fun U hU hW => PR_mk hPc hK hU hW⟩ rfl rfl hl.1 rfl (lv_room (Nat.le_of_ble_eq_true rfl)) dL_law_303 ⟨Nat.le_of_ble_eq_true rfl, Nat.le_of_ble_eq_true rfl⟩) (fun r_69 hf => ?_)
                      refine lv_aload_n hx hb dL_law_306 rfl (lv_at hl 2 rfl) ?_
                      refine lv_aload_n hx hb dL_law_307 rfl (lv_at hl 0 rfl) ?_
                      refine lv_iload_n hx hb dL_law_308 rfl (lv_at hl 3 rfl) ?_
                      refine lv_iconst (v := (1 : Int32)) hx hb dL_law_309 (by decide) ?_
                      refine lv_iadd hx hb dL_law_310 ?_
                      obtain ⟨hi_70, hf⟩ := hf
                      refine va_sld hx hb hX hbl hbA hS hi_70 dL_law_311 ?_
                      refine lv_aload_n hx hb dL_law_312 rfl (lv_at hl 0 rfl) ?_
                      refine lv_iload_n hx hb dL_law_313 rfl (lv_at hl 3 rfl) ?_
                      refine lv_iconst (v := (2 : Int32)) hx hb dL_law_314 (by decide) ?_
                      refine lv_iadd hx hb dL_law_315 ?_
                      obtain ⟨hi_71, hf⟩ := hf
                      refine va_sld hx hb hX hbl hbA hS hi_71 dL_law_316 ?_
                      have hPc : va_P D classes (wM cI cZ q9 s9) H := P_suf hP
                      refine vp_callSi (W.runV (As := [.int (xs (x3 + (1 : Int32)).toNatClampNeg), .int (xs (x3 + (2 : Int32)).toNatClampNeg)]) (rest := [.int r_69]) ⟨hx, hb, hml, hown, hts⟩ (c_X7_cell l D cI cZ cW q9 (xs (x3 + (1 : Int32)).toNatClampNeg) (xs (x3 + (2 : Int32)).toNatClampNeg) s9 _ hf) ⟨callB_of 2 hts (gT tw_811) rfl rfl rfl (ht _ tw_7) (ht _ tw_808) hd_X7_cell ⟨Nat.le_of_ble_eq_true rfl, Nat.le_of_ble_eq_true rfl⟩, ht _ tw_809, ht _ tw_810⟩ ⟨PR_blind, va_recv hK hPc (ci := 5) (q0 := 0) rfl eM_0, fun U hU hW => PR_mk hPc hK hU hW⟩ rfl rfl hl.1 rfl (lv_room (Nat.le_of_ble_eq_true rfl)) dL_law_317 ⟨Nat.le_of_ble_eq_true rfl, Nat.le_of_ble_eq_true rfl⟩) (fun r_72 hf => ?_)
                      refine lv_icmp_eq (tgt := 1074) hx hb dL_law_320 (by decide) (fun c_73 => ?_) (fun c_73 => ?_)
                      · have hf := hf.1 c_73
                        exact k_1074 x3 Z S a s9 H locs ls hf hP hD hS (lv_sub hl [0, 1, 2, 3] rfl)
                      · have hf := hf.2 c_73
                        refine lv_iconst (v := (0 : Int32)) hx hb dL_law_323 (by decide) ?_
                        exact hf.elim
                    · have hf := hf.2 c_66
                      by_cases c_74 : ((xs x3.toNatClampNeg) &&& (31 : Int32)) = (7 : Int32)
                      · have hf := hf.1 c_74
                        refine lv_tableIn (off := 293) (tgt := 325) hx hb dL_law_32 (by rw [c_74]; decide) (by rw [c_74]; decide) (by rw [c_74]; first | done | rfl) (by decide) ?_
                        refine lv_aload_n hx hb dL_law_325 rfl (lv_at hl 1 rfl) ?_
                        have hPc : va_P D classes (XW cI cZ cW Z Y (Z 1 0) (Z 2 0) S a) H := P_pre hP
                        have hDc : va_D A (XW cI cZ cW Z Y (Z 1 0) (Z 2 0) S a) := D_pre hD
                        have hFc := va_freeX hDc hS hA
                        refine va_calli (va_runV (As := []) (rest := []) ⟨hx, hb, hml, hown, hts⟩ (c_X6_day l D cI cZ cW Z Y H.size S a _ hf) ⟨callB_of 0 hts (gT tw_346) rfl rfl rfl (ht _ tw_1) (ht _ tw_343) hd_X6_day ⟨Nat.le_of_ble_eq_true rfl, Nat.le_of_ble_eq_true rfl⟩, ht _ tw_344, ht _ tw_345⟩ ⟨PW_blind, va_recv hK hPc (ci := 4) (q0 := 0) rfl eX_0, fun U hU hW => PW_mk hPc hDc hK hU hW⟩ rfl rfl hl.1 rfl (lv_room (Nat.le_of_ble_eq_true rfl)) dL_law_326 ⟨Nat.le_of_ble_eq_true rfl, Nat.le_of_ble_eq_true rfl⟩) hS (fun q _ h => hFc q h) hFc (fun r_75 u t H1 locs ht1 hvm hf hB hz1 hk1 hS => ?_)
                        obtain ⟨S_76, a_77⟩ := u
                        dsimp only at hf hB
                        rw [ht1] at hB
                        have hP := cjP hP hD hk1 hB
                        have hD : va_D A ((XW cI cZ cW Z Y (Z 1 0) (Z 2 0) S_76 a_77) ++ wM cI cZ q9 s9) := D_L hD
                        generalize H1 = H at hP hS ⊢
                        refine W.eq (g2 := F0 m 329 ls [.int r_75]) rfl ?_
                        refine lv_aload_n hx hb dL_law_329 rfl (lv_at hl 2 rfl) ?_
                        have hPc : va_P D classes (wM cI cZ q9 s9) H := P_suf hP
                        have hDc : va_D A (wM cI cZ q9 s9) := D_suf hD
                        have hFc := va_freeX hDc hS hA
                        refine va_calli (va_runV (As := []) (rest := [.int r_75]) ⟨hx, hb, hml, hown, hts⟩ (c_X7_day l D cI cZ cW q9 H.size s9 _ hf) ⟨callB_of 0 hts (gT tw_818) rfl rfl rfl (ht _ tw_7) (ht _ tw_815) hd_X7_day ⟨Nat.le_of_ble_eq_true rfl, Nat.le_of_ble_eq_true rfl⟩, ht _ tw_816, ht _ tw_817⟩ ⟨PW_blind, va_recv hK hPc (ci := 5) (q0 := 0) rfl eM_0, fun U hU hW => PW_mk hPc hDc hK hU hW⟩ rfl rfl hl.1 rfl (lv_room (Nat.le_of_ble_eq_true rfl)) dL_law_330 ⟨Nat.le_of_ble_eq_true rfl, Nat.le_of_ble_eq_true rfl⟩) hS (fun q _ h => hFc q h) hFc (fun r_78 u t H1 locs ht1 hvm hf hB hz1 hk1 hS => ?_)
                        obtain ⟨s9_79, rfl⟩ : ∃ z, z = u := ⟨_, rfl⟩
                        rw [ht1] at hB
                        have hP := cjT hP hD hk1 hB
                        have hD : va_D A ((XW cI cZ cW Z Y (Z 1 0) (Z 2 0) S_76 a_77) ++ wM cI cZ q9 s9_79) := D_L hD
                        generalize H1 = H at hP hS ⊢
                        refine W.eq (g2 := F0 m 333 ls [.int r_78, .int r_75]) rfl ?_
                        refine lv_icmp_eq (tgt := 1074) hx hb dL_law_333 (by decide) (fun c_80 => ?_) (fun c_80 => ?_)
                        · have hf := hf.1 c_80
                          exact k_1074 x3 Z S_76 a_77 s9_79 H locs ls hf hP hD hS (lv_sub hl [0, 1, 2, 3] rfl)
                        · have hf := hf.2 c_80
                          refine lv_iconst (v := (0 : Int32)) hx hb dL_law_336 (by decide) ?_
                          exact hf.elim
                      · have hf := hf.2 c_74
                        by_cases c_81 : ((xs x3.toNatClampNeg) &&& (31 : Int32)) = (8 : Int32)
                        · have hf := hf.1 c_81
                          refine lv_tableIn (off := 306) (tgt := 338) hx hb dL_law_32 (by rw [c_81]; decide) (by rw [c_81]; decide) (by rw [c_81]; first | done | rfl) (by decide) ?_
                          refine lv_aload_n hx hb dL_law_338 rfl (lv_at hl 1 rfl) ?_
                          refine lv_aload_n hx hb dL_law_339 rfl (lv_at hl 0 rfl) ?_
                          refine lv_iload_n hx hb dL_law_340 rfl (lv_at hl 3 rfl) ?_
                          refine lv_iconst (v := (1 : Int32)) hx hb dL_law_341 (by decide) ?_
                          refine lv_iadd hx hb dL_law_342 ?_
                          obtain ⟨hi_82, hf⟩ := hf
                          refine va_sld hx hb hX hbl hbA hS hi_82 dL_law_343 ?_
                          refine lv_aload_n hx hb dL_law_344 rfl (lv_at hl 0 rfl) ?_
                          refine lv_iload_n hx hb dL_law_345 rfl (lv_at hl 3 rfl) ?_
                          refine lv_iconst (v := (2 : Int32)) hx hb dL_law_346 (by decide) ?_
                          refine lv_iadd hx hb dL_law_347 ?_
                          obtain ⟨hi_83, hf⟩ := hf
                          refine va_sld hx hb hX hbl hbA hS hi_83 dL_law_348 ?_
                          have hPc : va_P D classes (XW cI cZ cW Z Y (Z 1 0) (Z 2 0) S a) H := P_pre hP
                          have hDc : va_D A (XW cI cZ cW Z Y (Z 1 0) (Z 2 0) S a) := D_pre hD
                          have hFc := va_freeX hDc hS hA
                          refine va_calli (va_runV (As := [.int (xs (x3 + (1 : Int32)).toNatClampNeg), .int (xs (x3 + (2 : Int32)).toNatClampNeg)]) (rest := []) ⟨hx, hb, hml, hown, hts⟩ (c_X6_eat l D cI cZ cW Z Y H.size (xs (x3 + (1 : Int32)).toNatClampNeg) (xs (x3 + (2 : Int32)).toNatClampNeg) S a _ hf) ⟨callB_of 2 hts (gT tw_424) rfl rfl rfl (ht _ tw_1) (ht _ tw_421) hd_X6_eat ⟨Nat.le_of_ble_eq_true rfl, Nat.le_of_ble_eq_true rfl⟩, ht _ tw_422, ht _ tw_423⟩ ⟨PW_blind, va_recv hK hPc (ci := 4) (q0 := 0) rfl eX_0, fun U hU hW => PW_mk hPc hDc hK hU hW⟩ rfl rfl hl.1 rfl (lv_room (Nat.le_of_ble_eq_true rfl)) dL_law_349 ⟨Nat.le_of_ble_eq_true rfl, Nat.le_of_ble_eq_true rfl⟩) hS (fun q _ h => hFc q h) hFc (fun r_84 u t H1 locs ht1 hvm hf hB hz1 hk1 hS => ?_)
                          obtain ⟨S_85, a_86⟩ := u
                          dsimp only at hf hB
                          rw [ht1] at hB
                          have hP := cjP hP hD hk1 hB
                          have hD : va_D A ((XW cI cZ cW Z Y (Z 1 0) (Z 2 0) S_85 a_86) ++ wM cI cZ q9 s9) := D_L hD
                          generalize H1 = H at hP hS ⊢
                          refine W.eq (g2 := F0 m 352 ls [.int r_84]) rfl ?_
                          refine lv_aload_n hx hb dL_law_352 rfl (lv_at hl 2 rfl) ?_
                          refine lv_aload_n hx hb dL_law_353 rfl (lv_at hl 0 rfl) ?_
                          refine lv_iload_n hx hb dL_law_354 rfl (lv_at hl 3 rfl) ?_
                          refine lv_iconst (v := (1 : Int32)) hx hb dL_law_355 (by decide) ?_
                          refine lv_iadd hx hb dL_law_356 ?_
                          obtain ⟨hi_87, hf⟩ := hf
                          refine va_sld hx hb hX hbl hbA hS hi_87 dL_law_357 ?_
                          refine lv_aload_n hx hb dL_law_358 rfl (lv_at hl 0 rfl) ?_
                          refine lv_iload_n hx hb dL_law_359 rfl (lv_at hl 3 rfl) ?_
                          refine lv_iconst (v := (2 : Int32)) hx hb dL_law_360 (by decide) ?_
                          refine lv_iadd hx hb dL_law_361 ?_
                          obtain ⟨hi_88, hf⟩ := hf
                          refine va_sld hx hb hX hbl hbA hS hi_88 dL_law_362 ?_
                          have hPc : va_P D classes (wM cI cZ q9 s9) H := P_suf hP
                          have hDc : va_D A (wM cI cZ q9 s9) := D_suf hD
                          have hFc := va_freeX hDc hS hA
                          refine va_calli (va_runV (As := [.int (xs (x3 + (1 : Int32)).toNatClampNeg), .int (xs (x3 + (2 : Int32)).toNatClampNeg)]) (rest := [.int r_84]) ⟨hx, hb, hml, hown, hts⟩ (c_X7_eat l D cI cZ cW q9 H.size (xs (x3 + (1 : Int32)).toNatClampNeg) (xs (x3 + (2 : Int32)).toNatClampNeg) s9 _ hf) ⟨callB_of 2 hts (gT tw_868) rfl rfl rfl (ht _ tw_7) (ht _ tw_865) hd_X7_eat ⟨Nat.le_of_ble_eq_true rfl, Nat.le_of_ble_eq_true rfl⟩, ht _ tw_866, ht _ tw_867⟩ ⟨PW_blind, va_recv hK hPc (ci := 5) (q0 := 0) rfl eM_0, fun U hU hW => PW_mk hPc hDc hK hU hW⟩ rfl rfl hl.1 rfl (lv_room (Nat.le_of_ble_eq_true rfl)) dL_law_363 ⟨Nat.le_of_ble_eq_true rfl, Nat.le_of_ble_eq_true rfl⟩) hS (fun q _ h => hFc q h) hFc (fun r_89 u t H1 locs ht1 hvm hf hB hz1 hk1 hS => ?_)
                          obtain ⟨s9_90, rfl⟩ : ∃ z, z = u := ⟨_, rfl⟩
                          rw [ht1] at hB
                          have hP := cjT hP hD hk1 hB
                          have hD : va_D A ((XW cI cZ cW Z Y (Z 1 0) (Z 2 0) S_85 a_86) ++ wM cI cZ q9 s9_90) := D_L hD
                          generalize H1 = H at hP hS ⊢
                          refine W.eq (g2 := F0 m 366 ls [.int r_89, .int r_84]) rfl ?_
                          refine lv_icmp_eq (tgt := 1074) hx hb dL_law_366 (by decide) (fun c_91 => ?_) (fun c_91 => ?_)
                          · have hf := hf.1 c_91
                            exact k_1074 x3 Z S_85 a_86 s9_90 H locs ls hf hP hD hS (lv_sub hl [0, 1, 2, 3] rfl)
                          · have hf := hf.2 c_91
                            refine lv_iconst (v := (0 : Int32)) hx hb dL_law_369 (by decide) ?_
                            exact hf.elim
                        · have hf := hf.2 c_81
                          by_cases c_92 : ((xs x3.toNatClampNeg) &&& (31 : Int32)) = (9 : Int32)
                          · have hf := hf.1 c_92
                            refine lv_tableIn (off := 339) (tgt := 371) hx hb dL_law_32 (by rw [c_92]; decide) (by rw [c_92]; decide) (by rw [c_92]; first | done | rfl) (by decide) ?_
                            refine lv_aload_n hx hb dL_law_371 rfl (lv_at hl 1 rfl) ?_
                            refine lv_aload_n hx hb dL_law_372 rfl (lv_at hl 0 rfl) ?_
                            refine lv_iload_n hx hb dL_law_373 rfl (lv_at hl 3 rfl) ?_
                            refine lv_iconst (v := (1 : Int32)) hx hb dL_law_374 (by decide) ?_
                            refine lv_iadd hx hb dL_law_375 ?_
                            obtain ⟨hi_93, hf⟩ := hf
                            refine va_sld hx hb hX hbl hbA hS hi_93 dL_law_376 ?_
                            refine lv_aload_n hx hb dL_law_377 rfl (lv_at hl 0 rfl) ?_
                            refine lv_iload_n hx hb dL_law_378 rfl (lv_at hl 3 rfl) ?_
                            refine lv_iconst (v := (2 : Int32)) hx hb dL_law_379 (by decide) ?_
                            refine lv_iadd hx hb dL_law_380 ?_
                            obtain ⟨hi_94, hf⟩ := hf
                            refine va_sld hx hb hX hbl hbA hS hi_94 dL_law_381 ?_
                            have hPc : va_P D classes (XW cI cZ cW Z Y (Z 1 0) (Z 2 0) S a) H := P_pre hP
                            have hDc : va_D A (XW cI cZ cW Z Y (Z 1 0) (Z 2 0) S a) := D_pre hD
                            have hFc := va_freeX hDc hS hA
                            refine va_calli (va_runV (As := [.int (xs (x3 + (1 : Int32)).toNatClampNeg), .int (xs (x3 + (2 : Int32)).toNatClampNeg)]) (rest := []) ⟨hx, hb, hml, hown, hts⟩ (c_X6_let l D cI cZ cW Z Y H.size (xs (x3 + (1 : Int32)).toNatClampNeg) (xs (x3 + (2 : Int32)).toNatClampNeg) S a _ hf) ⟨callB_of 2 hts (gT tw_439) rfl rfl rfl (ht _ tw_1) (ht _ tw_436) hd_X6_let ⟨Nat.le_of_ble_eq_true rfl, Nat.le_of_ble_eq_true rfl⟩, ht _ tw_437, ht _ tw_438⟩ ⟨PW_blind, va_recv hK hPc (ci := 4) (q0 := 0) rfl eX_0, fun U hU hW => PW_mk hPc hDc hK hU hW⟩ rfl rfl hl.1 rfl (lv_room (Nat.le_of_ble_eq_true rfl)) dL_law_382 ⟨Nat.le_of_ble_eq_true rfl, Nat.le_of_ble_eq_true rfl⟩) hS (fun q _ h => hFc q h) hFc (fun r_95 u t H1 locs ht1 hvm hf hB hz1 hk1 hS => ?_)
                            obtain ⟨S_96, a_97⟩ := u
                            dsimp only at hf hB
                            rw [ht1] at hB
                            have hP := cjP hP hD hk1 hB
                            have hD : va_D A ((XW cI cZ cW Z Y (Z 1 0) (Z 2 0) S_96 a_97) ++ wM cI cZ q9 s9) := D_L hD
                            generalize H1 = H at hP hS ⊢
                            refine W.eq (g2 := F0 m 385 ls [.int r_95]) rfl ?_
                            refine lv_aload_n hx hb dL_law_385 rfl (lv_at hl 2 rfl) ?_
                            refine lv_aload_n hx hb dL_law_386 rfl (lv_at hl 0 rfl) ?_
                            refine lv_iload_n hx hb dL_law_387 rfl (lv_at hl 3 rfl) ?_
                            refine lv_iconst (v := (1 : Int32)) hx hb dL_law_388 (by decide) ?_
                            refine lv_iadd hx hb dL_law_389 ?_
                            obtain ⟨hi_98, hf⟩ := hf
                            refine va_sld hx hb hX hbl hbA hS hi_98 dL_law_390 ?_
                            refine lv_aload_n hx hb dL_law_391 rfl (lv_at hl 0 rfl) ?_
                            refine lv_iload_n hx hb dL_law_392 rfl (lv_at hl 3 rfl) ?_
                            refine lv_iconst (v := (2 : Int32)) hx hb dL_law_393 (by decide) ?_
                            refine lv_iadd hx hb dL_law_394 ?_
                            obtain ⟨hi_99, hf⟩ := hf
                            refine va_sld hx hb hX hbl hbA hS hi_99 dL_law_395 ?_
                            have hPc : va_P D classes (wM cI cZ q9 s9) H := P_suf hP
                            have hDc : va_D A (wM cI cZ q9 s9) := D_suf hD
                            have hFc := va_freeX hDc hS hA
                            refine va_calli (va_runV (As := [.int (xs (x3 + (1 : Int32)).toNatClampNeg), .int (xs (x3 + (2 : Int32)).toNatClampNeg)]) (rest := [.int r_95]) ⟨hx, hb, hml, hown, hts⟩ (c_X7_let l D cI cZ cW q9 H.size (xs (x3 + (1 : Int32)).toNatClampNeg) (xs (x3 + (2 : Int32)).toNatClampNeg) s9 _ hf) ⟨callB_of 2 hts (gT tw_880) rfl rfl rfl (ht _ tw_7) (ht _ tw_877) hd_X7_let ⟨Nat.le_of_ble_eq_true rfl, Nat.le_of_ble_eq_true rfl⟩, ht _ tw_878, ht _ tw_879⟩ ⟨PW_blind, va_recv hK hPc (ci := 5) (q0 := 0) rfl eM_0, fun U hU hW => PW_mk hPc hDc hK hU hW⟩ rfl rfl hl.1 rfl (lv_room (Nat.le_of_ble_eq_true rfl)) dL_law_396 ⟨Nat.le_of_ble_eq_true rfl, Nat.le_of_ble_eq_true rfl⟩) hS (fun q _ h => hFc q h) hFc (fun r_100 u t H1 locs ht1 hvm hf hB hz1 hk1 hS => ?_)
                            obtain ⟨s9_101, rfl⟩ : ∃ z, z = u := ⟨_, rfl⟩
                            rw [ht1] at hB
                            have hP := cjT hP hD hk1 hB
                            have hD : va_D A ((XW cI cZ cW Z Y (Z 1 0) (Z 2 0) S_96 a_97) ++ wM cI cZ q9 s9_101) := D_L hD
                            generalize H1 = H at hP hS ⊢
                            refine W.eq (g2 := F0 m 399 ls [.int r_100, .int r_95]) rfl ?_
                            refine lv_icmp_eq (tgt := 1074) hx hb dL_law_399 (by decide) (fun c_102 => ?_) (fun c_102 => ?_)
                            · have hf := hf.1 c_102
                              exact k_1074 x3 Z S_96 a_97 s9_101 H locs ls hf hP hD hS (lv_sub hl [0, 1, 2, 3] rfl)
                            · have hf := hf.2 c_102
                              refine lv_iconst (v := (0 : Int32)) hx hb dL_law_402 (by decide) ?_
                              exact hf.elim
                          · have hf := hf.2 c_92
                            by_cases c_103 : ((xs x3.toNatClampNeg) &&& (31 : Int32)) = (10 : Int32)
                            · have hf := hf.1 c_103
                              refine lv_tableIn (off := 372) (tgt := 404) hx hb dL_law_32 (by rw [c_103]; decide) (by rw [c_103]; decide) (by rw [c_103]; first | done | rfl) (by decide) ?_
                              refine lv_aload_n hx hb dL_law_404 rfl (lv_at hl 1 rfl) ?_
                              refine lv_aload_n hx hb dL_law_405 rfl (lv_at hl 0 rfl) ?_
                              refine lv_iload_n hx hb dL_law_406 rfl (lv_at hl 3 rfl) ?_
                              refine lv_iconst (v := (1 : Int32)) hx hb dL_law_407 (by decide) ?_
                              refine lv_iadd hx hb dL_law_408 ?_
                              obtain ⟨hi_104, hf⟩ := hf
                              refine va_sld hx hb hX hbl hbA hS hi_104 dL_law_409 ?_
                              refine lv_aload_n hx hb dL_law_410 rfl (lv_at hl 0 rfl) ?_
                              refine lv_iload_n hx hb dL_law_411 rfl (lv_at hl 3 rfl) ?_
                              refine lv_iconst (v := (2 : Int32)) hx hb dL_law_412 (by decide) ?_
                              refine lv_iadd hx hb dL_law_413 ?_
                              obtain ⟨hi_105, hf⟩ := hf
                              refine va_sld hx hb hX hbl hbA hS hi_105 dL_law_414 ?_
                              have hPc : va_P D classes (XW cI cZ cW Z Y (Z 1 0) (Z 2 0) S a) H := P_pre hP
                              have hDc : va_D A (XW cI cZ cW Z Y (Z 1 0) (Z 2 0) S a) := D_pre hD
                              have hFc := va_freeX hDc hS hA
                              refine va_calli (va_runV (As := [.int (xs (x3 + (1 : Int32)).toNatClampNeg), .int (xs (x3 + (2 : Int32)).toNatClampNeg)]) (rest := []) ⟨hx, hb, hml, hown, hts⟩ (c_X6_sell l D cI cZ cW Z Y H.size (xs (x3 + (1 : Int32)).toNatClampNeg) (xs (x3 + (2 : Int32)).toNatClampNeg) S a _ hf) ⟨callB_of 2 hts (gT tw_459) rfl rfl rfl (ht _ tw_1) (ht _ tw_456) hd_X6_sell ⟨Nat.le_of_ble_eq_true rfl, Nat.le_of_ble_eq_true rfl⟩, ht _ tw_457, ht _ tw_458⟩ ⟨PW_blind, va_recv hK hPc (ci := 4) (q0 := 0) rfl eX_0, fun U hU hW => PW_mk hPc hDc hK hU hW⟩ rfl rfl hl.1 rfl (lv_room (Nat.le_of_ble_eq_true rfl)) dL_law_415 ⟨Nat.le_of_ble_eq_true rfl, Nat.le_of_ble_eq_true rfl⟩) hS (fun q _ h => hFc q h) hFc (fun r_106 u t H1 locs ht1 hvm hf hB hz1 hk1 hS => ?_)
                              obtain ⟨S_107, a_108⟩ := u
                              dsimp only at hf hB
                              rw [ht1] at hB
                              have hP := cjP hP hD hk1 hB
                              have hD : va_D A ((XW cI cZ cW Z Y (Z 1 0) (Z 2 0) S_107 a_108) ++ wM cI cZ q9 s9) := D_L hD
                              generalize H1 = H at hP hS ⊢
                              refine W.eq (g2 := F0 m 418 ls [.int r_106]) rfl ?_
                              refine lv_aload_n hx hb dL_law_418 rfl (lv_at hl 2 rfl) ?_
                              refine lv_aload_n hx hb dL_law_419 rfl (lv_at hl 0 rfl) ?_
                              refine lv_iload_n hx hb dL_law_420 rfl (lv_at hl 3 rfl) ?_
                              refine lv_iconst (v := (1 : Int32)) hx hb dL_law_421 (by decide) ?_
                              refine lv_iadd hx hb dL_law_422 ?_
                              obtain ⟨hi_109, hf⟩ := hf
                              refine va_sld hx hb hX hbl hbA hS hi_109 dL_law_423 ?_
                              refine lv_aload_n hx hb dL_law_424 rfl (lv_at hl 0 rfl) ?_
                              refine lv_iload_n hx hb dL_law_425 rfl (lv_at hl 3 rfl) ?_
                              refine lv_iconst (v := (2 : Int32)) hx hb dL_law_426 (by decide) ?_
                              refine lv_iadd hx hb dL_law_427 ?_
                              obtain ⟨hi_110, hf⟩ := hf
                              refine va_sld hx hb hX hbl hbA hS hi_110 dL_law_428 ?_
                              have hPc : va_P D classes (wM cI cZ q9 s9) H := P_suf hP
                              have hDc : va_D A (wM cI cZ q9 s9) := D_suf hD
                              have hFc := va_freeX hDc hS hA
                              refine va_calli (va_runV (As := [.int (xs (x3 + (1 : Int32)).toNatClampNeg), .int (xs (x3 + (2 : Int32)).toNatClampNeg)]) (rest := [.int r_106]) ⟨hx, hb, hml, hown, hts⟩ (c_X7_sell l D cI cZ cW q9 H.size (xs (x3 + (1 : Int32)).toNatClampNeg) (xs (x3 + (2 : Int32)).toNatClampNeg) s9 _ hf) ⟨callB_of 2 hts (gT tw_888) rfl rfl rfl (ht _ tw_7) (ht _ tw_885) hd_X7_sell ⟨Nat.le_of_ble_eq_true rfl, Nat.le_of_ble_eq_true rfl⟩, ht _ tw_886, ht _ tw_887⟩ ⟨PW_blind, va_recv hK hPc (ci := 5) (q0 := 0) rfl eM_0, fun U hU hW => PW_mk hPc hDc hK hU hW⟩ rfl rfl hl.1 rfl (lv_room (Nat.le_of_ble_eq_true rfl)) dL_law_429 ⟨Nat.le_of_ble_eq_true rfl, Nat.le_of_ble_eq_true rfl⟩) hS (fun q _ h => hFc q h) hFc (fun r_111 u t H1 locs ht1 hvm hf hB hz1 hk1 hS => ?_)
                              obtain ⟨s9_112, rfl⟩ : ∃ z, z = u := ⟨_, rfl⟩
                              rw [ht1] at hB
                              have hP := cjT hP hD hk1 hB
                              have hD : va_D A ((XW cI cZ cW Z Y (Z 1 0) (Z 2 0) S_107 a_108) ++ wM cI cZ q9 s9_112) := D_L hD
                              generalize H1 = H at hP hS ⊢
                              refine W.eq (g2 := F0 m 432 ls [.int r_111, .int r_106]) rfl ?_
                              refine lv_icmp_eq (tgt := 1074) hx hb dL_law_432 (by decide) (fun c_113 => ?_) (fun c_113 => ?_)
                              · have hf := hf.1 c_113
                                exact k_1074 x3 Z S_107 a_108 s9_112 H locs ls hf hP hD hS (lv_sub hl [0, 1, 2, 3] rfl)
                              · have hf := hf.2 c_113
                                refine lv_iconst (v := (0 : Int32)) hx hb dL_law_435 (by decide) ?_
                                exact hf.elim
                            · have hf := hf.2 c_103
                              by_cases c_114 : ((xs x3.toNatClampNeg) &&& (31 : Int32)) = (11 : Int32)
                              · have hf := hf.1 c_114
                                refine lv_tableIn (off := 405) (tgt := 437) hx hb dL_law_32 (by rw [c_114]; decide) (by rw [c_114]; decide) (by rw [c_114]; first | done | rfl) (by decide) ?_
                                refine lv_aload_n hx hb dL_law_437 rfl (lv_at hl 1 rfl) ?_
                                have hPc : va_P D classes (XW cI cZ cW Z Y (Z 1 0) (Z 2 0) S a) H := P_pre hP
                                have hDc : va_D A (XW cI cZ cW Z Y (Z 1 0) (Z 2 0) S a) := D_pre hD
                                have hFc := va_freeX hDc hS hA
                                refine va_calli (va_runV (As := []) (rest := []) ⟨hx, hb, hml, hown, hts⟩ (c_X6_undo l D cI cZ cW Z Y H.size S a _ hf) ⟨callB_of 0 hts (gT tw_468) rfl rfl rfl (ht _ tw_1) (ht _ tw_465) hd_X6_undo ⟨Nat.le_of_ble_eq_true rfl, Nat.le_of_ble_eq_true rfl⟩, ht _ tw_466, ht _ tw_467⟩ ⟨PW_blind, va_recv hK hPc (ci := 4) (q0 := 0) rfl eX_0, fun U hU hW => PW_mk hPc hDc hK hU hW⟩ rfl rfl hl.1 rfl (lv_room (Nat.le_of_ble_eq_true rfl)) dL_law_438 ⟨Nat.le_of_ble_eq_true rfl, Nat.le_of_ble_eq_true rfl⟩) hS (fun q _ h => hFc q h) hFc (fun r_115 u t H1 locs ht1 hvm hf hB hz1 hk1 hS => ?_)
                                obtain ⟨S_116, a_117⟩ := u
                                dsimp only at hf hB
                                rw [ht1] at hB
                                have hP := cjP hP hD hk1 hB
                                have hD : va_D A ((XW cI cZ cW Z Y (Z 1 0) (Z 2 0) S_116 a_117) ++ wM cI cZ q9 s9) := D_L hD
                                generalize H1 = H at hP hS ⊢
                                refine W.eq (g2 := F0 m 441 ls [.int r_115]) rfl ?_
                                refine lv_aload_n hx hb dL_law_441 rfl (lv_at hl 2 rfl) ?_
                                have hPc : va_P D classes (wM cI cZ q9 s9) H := P_suf hP
                                have hDc : va_D A (wM cI cZ q9 s9) := D_suf hD
                                have hFc := va_freeX hDc hS hA
                                refine va_calli (va_runV (As := []) (rest := [.int r_115]) ⟨hx, hb, hml, hown, hts⟩ (c_X7_undo l D cI cZ cW q9 H.size s9 _ hf) ⟨callB_of 0 hts (gT tw_900) rfl rfl rfl (ht _ tw_7) (ht _ tw_897) hd_X7_undo ⟨Nat.le_of_ble_eq_true rfl, Nat.le_of_ble_eq_true rfl⟩, ht _ tw_898, ht _ tw_899⟩ ⟨PW_blind, va_recv hK hPc (ci := 5) (q0 := 0) rfl eM_0, fun U hU hW => PW_mk hPc hDc hK hU hW⟩ rfl rfl hl.1 rfl (lv_room (Nat.le_of_ble_eq_true rfl)) dL_law_442 ⟨Nat.le_of_ble_eq_true rfl, Nat.le_of_ble_eq_true rfl⟩) hS (fun q _ h => hFc q h) hFc (fun r_118 u t H1 locs ht1 hvm hf hB hz1 hk1 hS => ?_)
                                obtain ⟨s9_119, rfl⟩ : ∃ z, z = u := ⟨_, rfl⟩
                                rw [ht1] at hB
                                have hP := cjT hP hD hk1 hB
                                have hD : va_D A ((XW cI cZ cW Z Y (Z 1 0) (Z 2 0) S_116 a_117) ++ wM cI cZ q9 s9_119) := D_L hD
                                generalize H1 = H at hP hS ⊢
                                refine W.eq (g2 := F0 m 445 ls [.int r_118, .int r_115]) rfl ?_
                                refine lv_icmp_eq (tgt := 1074) hx hb dL_law_445 (by decide) (fun c_120 => ?_) (fun c_120 => ?_)
                                · have hf := hf.1 c_120
                                  exact k_1074 x3 Z S_116 a_117 s9_119 H locs ls hf hP hD hS (lv_sub hl [0, 1, 2, 3] rfl)
                                · have hf := hf.2 c_120
                                  refine lv_iconst (v := (0 : Int32)) hx hb dL_law_448 (by decide) ?_
                                  exact hf.elim
                              · have hf := hf.2 c_114
                                by_cases c_121 : ((xs x3.toNatClampNeg) &&& (31 : Int32)) = (12 : Int32)
                                · have hf := hf.1 c_121
                                  refine lv_tableIn (off := 418) (tgt := 450) hx hb dL_law_32 (by rw [c_121]; decide) (by rw [c_121]; decide) (by rw [c_121]; first | done | rfl) (by decide) ?_
                                  refine lv_aload_n hx hb dL_law_450 rfl (lv_at hl 1 rfl) ?_
                                  refine lv_aload_n hx hb dL_law_451 rfl (lv_at hl 0 rfl) ?_
                                  refine lv_iload_n hx hb dL_law_452 rfl (lv_at hl 3 rfl) ?_
                                  refine lv_iconst (v := (1 : Int32)) hx hb dL_law_453 (by decide) ?_
                                  refine lv_iadd hx hb dL_law_454 ?_
                                  obtain ⟨hi_122, hf⟩ := hf
                                  refine va_sld hx hb hX hbl hbA hS hi_122 dL_law_455 ?_
                                  refine lv_aload_n hx hb dL_law_456 rfl (lv_at hl 0 rfl) ?_
                                  refine lv_iload_n hx hb dL_law_457 rfl (lv_at hl 3 rfl) ?_
                                  refine lv_iconst (v := (2 : Int32)) hx hb dL_law_458 (by decide) ?_
                                  refine lv_iadd hx hb dL_law_459 ?_
                                  obtain ⟨hi_123, hf⟩ := hf
                                  refine va_sld hx hb hX hbl hbA hS hi_123 dL_law_460 ?_
                                  have hPc : va_P D classes (XW cI cZ cW Z Y (Z 1 0) (Z 2 0) S a) H := P_pre hP
                                  refine vp_callSi (W.runV (As := [.int (xs (x3 + (1 : Int32)).toNatClampNeg), .int (xs (x3 + (2 : Int32)).toNatClampNeg)]) (rest := []) ⟨hx, hb, hml, hown, hts⟩ (c_X6_way l D cI cZ cW Z Y (xs (x3 + (1 : Int32)).toNatClampNeg) (xs (x3 + (2 : Int32)).toNatClampNeg) S a _ hf) ⟨callB_of 2 hts (gT tw_476) rfl rfl rfl (ht _ tw_1) (ht _ tw_473) hd_X6_way ⟨Nat.le_of_ble_eq_true rfl, Nat.le_of_ble_eq_true rfl⟩, ht _ tw_474, ht _ tw_475⟩ ⟨PR_blind, va_recv hK hPc (ci := 4) (q0 := 0) rfl eX_0, fun U hU hW => PR_mk hPc hK hU hW⟩ rfl rfl hl.1 rfl (lv_room (Nat.le_of_ble_eq_true rfl)) dL_law_461 ⟨Nat.le_of_ble_eq_true rfl, Nat.le_of_ble_eq_true rfl⟩) (fun r_124 hf => ?_)
                                  refine lv_aload_n hx hb dL_law_464 rfl (lv_at hl 2 rfl) ?_
                                  refine lv_aload_n hx hb dL_law_465 rfl (lv_at hl 0 rfl) ?_
                                  refine lv_iload_n hx hb dL_law_466 rfl (lv_at hl 3 rfl) ?_
                                  refine lv_iconst (v := (1 : Int32)) hx hb dL_law_467 (by decide) ?_
                                  refine lv_iadd hx hb dL_law_468 ?_
                                  obtain ⟨hi_125, hf⟩ := hf
                                  refine va_sld hx hb hX hbl hbA hS hi_125 dL_law_469 ?_
                                  refine lv_aload_n hx hb dL_law_470 rfl (lv_at hl 0 rfl) ?_
                                  refine lv_iload_n hx hb dL_law_471 rfl (lv_at hl 3 rfl) ?_
                                  refine lv_iconst (v := (2 : Int32)) hx hb dL_law_472 (by decide) ?_
                                  refine lv_iadd hx hb dL_law_473 ?_
                                  obtain ⟨hi_126, hf⟩ := hf
                                  refine va_sld hx hb hX hbl hbA hS hi_126 dL_law_474 ?_
                                  have hPc : va_P D classes (wM cI cZ q9 s9) H := P_suf hP
                                  refine vp_callSi (W.runV (As := [.int (xs (x3 + (1 : Int32)).toNatClampNeg), .int (xs (x3 + (2 : Int32)).toNatClampNeg)]) (rest := [.int r_124]) ⟨hx, hb, hml, hown, hts⟩ (c_X7_way l D cI cZ cW q9 (xs (x3 + (1 : Int32)).toNatClampNeg) (xs (x3 + (2 : Int32)).toNatClampNeg) s9 _ hf) ⟨callB_of 2 hts (gT tw_904) rfl rfl rfl (ht _ tw_7) (ht _ tw_901) hd_X7_way ⟨Nat.le_of_ble_eq_true rfl, Nat.le_of_ble_eq_true rfl⟩, ht _ tw_902, ht _ tw_903⟩ ⟨PR_blind, va_recv hK hPc (ci := 5) (q0 := 0) rfl eM_0, fun U hU hW => PR_mk hPc hK hU hW⟩ rfl rfl hl.1 rfl (lv_room (Nat.le_of_ble_eq_true rfl)) dL_law_475 ⟨Nat.le_of_ble_eq_true rfl, Nat.le_of_ble_eq_true rfl⟩) (fun r_127 hf => ?_)
                                  refine lv_icmp_eq (tgt := 1074) hx hb dL_law_478 (by decide) (fun c_128 => ?_) (fun c_128 => ?_)
                                  · have hf := hf.1 c_128
                                    exact k_1074 x3 Z S a s9 H locs ls hf hP hD hS (lv_sub hl [0, 1, 2, 3] rfl)
                                  · have hf := hf.2 c_128
                                    refine lv_iconst (v := (0 : Int32)) hx hb dL_law_481 (by decide) ?_
                                    exact hf.elim
                                · have hf := hf.2 c_121
                                  by_cases c_129 : ((xs x3.toNatClampNeg) &&& (31 : Int32)) = (13 : Int32)
                                  · have hf := hf.1 c_129
                                    refine lv_tableIn (off := 451) (tgt := 483) hx hb dL_law_32 (by rw [c_129]; decide) (by rw [c_129]; decide) (by rw [c_129]; first | done | rfl) (by decide) ?_
                                    refine lv_aload_n hx hb dL_law_483 rfl (lv_at hl 1 rfl) ?_
                                    refine lv_aload_n hx hb dL_law_484 rfl (lv_at hl 0 rfl) ?_
                                    refine lv_iload_n hx hb dL_law_485 rfl (lv_at hl 3 rfl) ?_
                                    refine lv_iconst (v := (1 : Int32)) hx hb dL_law_486 (by decide) ?_
                                    refine lv_iadd hx hb dL_law_487 ?_
                                    obtain ⟨hi_130, hf⟩ := hf
                                    refine va_sld hx hb hX hbl hbA hS hi_130 dL_law_488 ?_
                                    refine lv_aload_n hx hb dL_law_489 rfl (lv_at hl 0 rfl) ?_
                                    refine lv_iload_n hx hb dL_law_490 rfl (lv_at hl 3 rfl) ?_
                                    refine lv_iconst (v := (2 : Int32)) hx hb dL_law_491 (by decide) ?_
                                    refine lv_iadd hx hb dL_law_492 ?_
                                    obtain ⟨hi_131, hf⟩ := hf
                                    refine va_sld hx hb hX hbl hbA hS hi_131 dL_law_493 ?_
                                    have hPc : va_P D classes (XW cI cZ cW Z Y (Z 1 0) (Z 2 0) S a) H := P_pre hP
                                    refine vp_callSi (W.runV (As := [.int (xs (x3 + (1 : Int32)).toNatClampNeg), .int (xs (x3 + (2 : Int32)).toNatClampNeg)]) (rest := []) ⟨hx, hb, hml, hown, hts⟩ (c_X6_gnaw l D cI cZ cW Z Y (xs (x3 + (1 : Int32)).toNatClampNeg) (xs (x3 + (2 : Int32)).toNatClampNeg) S a _ hf) ⟨callB_of 2 hts (gT tw_489) rfl rfl rfl (ht _ tw_1) (ht _ tw_486) hd_X6_gnaw ⟨Nat.le_of_ble_eq_true rfl, Nat.le_of_ble_eq_true rfl⟩, ht _ tw_487, ht _ tw_488⟩ ⟨PR_blind, va_recv hK hPc (ci := 4) (q0 := 0) rfl eX_0, fun U hU hW => PR_mk hPc hK hU hW⟩ rfl rfl hl.1 rfl (lv_room (Nat.le_of_ble_eq_true rfl)) dL_law_494 ⟨Nat.le_of_ble_eq_true rfl, Nat.le_of_ble_eq_true rfl⟩) (fun r_132 hf => ?_)
                                    refine lv_aload_n hx hb dL_law_497 rfl (lv_at hl 2 rfl) ?_
                                    refine lv_aload_n hx hb dL_law_498 rfl (lv_at hl 0 rfl) ?_
                                    refine lv_iload_n hx hb dL_law_499 rfl (lv_at hl 3 rfl) ?_
                                    refine lv_iconst (v := (1 : Int32)) hx hb dL_law_500 (by decide) ?_
                                    refine lv_iadd hx hb dL_law_501 ?_
                                    obtain ⟨hi_133, hf⟩ := hf
                                    refine va_sld hx hb hX hbl hbA hS hi_133 dL_law_502 ?_
                                    refine lv_aload_n hx hb dL_law_503 rfl (lv_at hl 0 rfl) ?_
                                    refine lv_iload_n hx hb dL_law_504 rfl (lv_at hl 3 rfl) ?_
                                    refine lv_iconst (v := (2 : Int32)) hx hb dL_law_505 (by decide) ?_
                                    refine lv_iadd hx hb dL_law_506 ?_
                                    obtain ⟨hi_134, hf⟩ := hf
                                    refine va_sld hx hb hX hbl hbA hS hi_134 dL_law_507 ?_
                                    have hPc : va_P D classes (wM cI cZ q9 s9) H := P_suf hP
                                    have hDc : va_D A (wM cI cZ q9 s9) := D_suf hD
                                    have hFc := va_freeX hDc hS hA
                                    refine va_calli (va_runV (As := [.int (xs (x3 + (1 : Int32)).toNatClampNeg), .int (xs (x3 + (2 : Int32)).toNatClampNeg)]) (rest := [.int r_132]) ⟨hx, hb, hml, hown, hts⟩ (c_X7_gnaw l D cI cZ cW q9 H.size (xs (x3 + (1 : Int32)).toNatClampNeg) (xs (x3 + (2 : Int32)).toNatClampNeg) s9 _ hf) ⟨callB_of 2 hts (gT tw_911) rfl rfl rfl (ht _ tw_7) (ht _ tw_908) hd_X7_gnaw ⟨Nat.le_of_ble_eq_true rfl, Nat.le_of_ble_eq_true rfl⟩, ht _ tw_909, ht _ tw_910⟩ ⟨PW_blind, va_recv hK hPc (ci := 5) (q0 := 0) rfl eM_0, fun U hU hW => PW_mk hPc hDc hK hU hW⟩ rfl rfl hl.1 rfl (lv_room (Nat.le_of_ble_eq_true rfl)) dL_law_508 ⟨Nat.le_of_ble_eq_true rfl, Nat.le_of_ble_eq_true rfl⟩) hS (fun q _ h => hFc q h) hFc (fun r_135 u t H1 locs ht1 hvm hf hB hz1 hk1 hS => ?_)
                                    obtain ⟨s9_136, rfl⟩ : ∃ z, z = u := ⟨_, rfl⟩
                                    rw [ht1] at hB
                                    have hP := cjT hP hD hk1 hB
                                    have hD : va_D A ((XW cI cZ cW Z Y (Z 1 0) (Z 2 0) S a) ++ wM cI cZ q9 s9_136) := D_L hD
                                    generalize H1 = H at hP hS ⊢
                                    refine W.eq (g2 := F0 m 511 ls [.int r_135, .int r_132]) rfl ?_
                                    refine lv_icmp_eq (tgt := 1074) hx hb dL_law_511 (by decide) (fun c_137 => ?_) (fun c_137 => ?_)
                                    · have hf := hf.1 c_137
                                      exact k_1074 x3 Z S a s9_136 H locs ls hf hP hD hS (lv_sub hl [0, 1, 2, 3] rfl)
                                    · have hf := hf.2 c_137
                                      refine lv_iconst (v := (0 : Int32)) hx hb dL_law_514 (by decide) ?_
                                      exact hf.elim
                                  · have hf := hf.2 c_129
                                    by_cases c_138 : ((xs x3.toNatClampNeg) &&& (31 : Int32)) = (14 : Int32)
                                    · have hf := hf.1 c_138
                                      refine lv_tableIn (off := 484) (tgt := 516) hx hb dL_law_32 (by rw [c_138]; decide) (by rw [c_138]; decide) (by rw [c_138]; first | done | rfl) (by decide) ?_
                                      refine lv_aload_n hx hb dL_law_516 rfl (lv_at hl 1 rfl) ?_
                                      refine lv_aload_n hx hb dL_law_517 rfl (lv_at hl 0 rfl) ?_
                                      refine lv_iload_n hx hb dL_law_518 rfl (lv_at hl 3 rfl) ?_
                                      refine lv_iconst (v := (1 : Int32)) hx hb dL_law_519 (by decide) ?_
                                      refine lv_iadd hx hb dL_law_520 ?_
                                      obtain ⟨hi_139, hf⟩ := hf
                                      refine va_sld hx hb hX hbl hbA hS hi_139 dL_law_521 ?_
                                      refine lv_aload_n hx hb dL_law_522 rfl (lv_at hl 0 rfl) ?_
                                      refine lv_iload_n hx hb dL_law_523 rfl (lv_at hl 3 rfl) ?_
                                      refine lv_iconst (v := (2 : Int32)) hx hb dL_law_524 (by decide) ?_
                                      refine lv_iadd hx hb dL_law_525 ?_
                                      obtain ⟨hi_140, hf⟩ := hf
                                      refine va_sld hx hb hX hbl hbA hS hi_140 dL_law_526 ?_
                                      have hPc : va_P D classes (XW cI cZ cW Z Y (Z 1 0) (Z 2 0) S a) H := P_pre hP
                                      have hDc : va_D A (XW cI cZ cW Z Y (Z 1 0) (Z 2 0) S a) := D_pre hD
                                      have hFc := va_freeX hDc hS hA
                                      refine va_calli (va_runV (As := [.int (xs (x3 + (1 : Int32)).toNatClampNeg), .int (xs (x3 + (2 : Int32)).toNatClampNeg)]) (rest := []) ⟨hx, hb, hml, hown, hts⟩ (c_X6_wedding l D cI cZ cW Z Y H.size (xs (x3 + (1 : Int32)).toNatClampNeg) (xs (x3 + (2 : Int32)).toNatClampNeg) S a _ hf) ⟨callB_of 2 hts (gT tw_500) rfl rfl rfl (ht _ tw_1) (ht _ tw_497) hd_X6_wedding ⟨Nat.le_of_ble_eq_true rfl, Nat.le_of_ble_eq_true rfl⟩, ht _ tw_498, ht _ tw_499⟩ ⟨PW_blind, va_recv hK hPc (ci := 4) (q0 := 0) rfl eX_0, fun U hU hW => PW_mk hPc hDc hK hU hW⟩ rfl rfl hl.1 rfl (lv_room (Nat.le_of_ble_eq_true rfl)) dL_law_527 ⟨Nat.le_of_ble_eq_true rfl, Nat.le_of_ble_eq_true rfl⟩) hS (fun q _ h => hFc q h) hFc (fun r_141 u t H1 locs ht1 hvm hf hB hz1 hk1 hS => ?_)
                                      obtain ⟨S_142, a_143⟩ := u
                                      dsimp only at hf hB
                                      rw [ht1] at hB
                                      have hP := cjP hP hD hk1 hB
                                      have hD : va_D A ((XW cI cZ cW Z Y (Z 1 0) (Z 2 0) S_142 a_143) ++ wM cI cZ q9 s9) := D_L hD
                                      generalize H1 = H at hP hS ⊢
                                      refine W.eq (g2 := F0 m 530 ls [.int r_141]) rfl ?_
                                      refine lv_aload_n hx hb dL_law_530 rfl (lv_at hl 2 rfl) ?_
                                      refine lv_aload_n hx hb dL_law_531 rfl (lv_at hl 0 rfl) ?_
                                      refine lv_iload_n hx hb dL_law_532 rfl (lv_at hl 3 rfl) ?_
                                      refine lv_iconst (v := (1 : Int32)) hx hb dL_law_533 (by decide) ?_
                                      refine lv_iadd hx hb dL_law_534 ?_
                                      obtain ⟨hi_144, hf⟩ := hf
                                      refine va_sld hx hb hX hbl hbA hS hi_144 dL_law_535 ?_
                                      refine lv_aload_n hx hb dL_law_536 rfl (lv_at hl 0 rfl) ?_
                                      refine lv_iload_n hx hb dL_law_537 rfl (lv_at hl 3 rfl) ?_
                                      refine lv_iconst (v := (2 : Int32)) hx hb dL_law_538 (by decide) ?_
                                      refine lv_iadd hx hb dL_law_539 ?_
                                      obtain ⟨hi_145, hf⟩ := hf
                                      refine va_sld hx hb hX hbl hbA hS hi_145 dL_law_540 ?_
                                      have hPc : va_P D classes (wM cI cZ q9 s9) H := P_suf hP
                                      have hDc : va_D A (wM cI cZ q9 s9) := D_suf hD
                                      have hFc := va_freeX hDc hS hA
                                      refine va_calli (va_runV (As := [.int (xs (x3 + (1 : Int32)).toNatClampNeg), .int (xs (x3 + (2 : Int32)).toNatClampNeg)]) (rest := [.int r_141]) ⟨hx, hb, hml, hown, hts⟩ (c_X7_wedding l D cI cZ cW q9 H.size (xs (x3 + (1 : Int32)).toNatClampNeg) (xs (x3 + (2 : Int32)).toNatClampNeg) s9 _ hf) ⟨callB_of 2 hts (gT tw_923) rfl rfl rfl (ht _ tw_7) (ht _ tw_920) hd_X7_wedding ⟨Nat.le_of_ble_eq_true rfl, Nat.le_of_ble_eq_true rfl⟩, ht _ tw_921, ht _ tw_922⟩ ⟨PW_blind, va_recv hK hPc (ci := 5) (q0 := 0) rfl eM_0, fun U hU hW => PW_mk hPc hDc hK hU hW⟩ rfl rfl hl.1 rfl (lv_room (Nat.le_of_ble_eq_true rfl)) dL_law_541 ⟨Nat.le_of_ble_eq_true rfl, Nat.le_of_ble_eq_true rfl⟩) hS (fun q _ h => hFc q h) hFc (fun r_146 u t H1 locs ht1 hvm hf hB hz1 hk1 hS => ?_)
                                      obtain ⟨s9_147, rfl⟩ : ∃ z, z = u := ⟨_, rfl⟩
                                      rw [ht1] at hB
                                      have hP := cjT hP hD hk1 hB
                                      have hD : va_D A ((XW cI cZ cW Z Y (Z 1 0) (Z 2 0) S_142 a_143) ++ wM cI cZ q9 s9_147) := D_L hD
                                      generalize H1 = H at hP hS ⊢
                                      refine W.eq (g2 := F0 m 544 ls [.int r_146, .int r_141]) rfl ?_
                                      refine lv_icmp_eq (tgt := 1074) hx hb dL_law_544 (by decide) (fun c_148 => ?_) (fun c_148 => ?_)
                                      · have hf := hf.1 c_148
                                        exact k_1074 x3 Z S_142 a_143 s9_147 H locs ls hf hP hD hS (lv_sub hl [0, 1, 2, 3] rfl)
                                      · have hf := hf.2 c_148
                                        refine lv_iconst (v := (0 : Int32)) hx hb dL_law_547 (by decide) ?_
                                        exact hf.elim
                                    · have hf := hf.2 c_138
                                      by_cases c_149 : ((xs x3.toNatClampNeg) &&& (31 : Int32)) = (15 : Int32)
                                      · have hf := hf.1 c_149
                                        refine lv_tableIn (off := 517) (tgt := 549) hx hb dL_law_32 (by rw [c_149]; decide) (by rw [c_149]; decide) (by rw [c_149]; first | done | rfl) (by decide) ?_
                                        refine lv_aload_n hx hb dL_law_549 rfl (lv_at hl 1 rfl) ?_
                                        refine lv_aload_n hx hb dL_law_550 rfl (lv_at hl 0 rfl) ?_
                                        refine lv_iload_n hx hb dL_law_551 rfl (lv_at hl 3 rfl) ?_
                                        refine lv_iconst (v := (1 : Int32)) hx hb dL_law_552 (by decide) ?_
                                        refine lv_iadd hx hb dL_law_553 ?_
                                        obtain ⟨hi_150, hf⟩ := hf
                                        refine va_sld hx hb hX hbl hbA hS hi_150 dL_law_554 ?_
                                        refine lv_aload_n hx hb dL_law_555 rfl (lv_at hl 0 rfl) ?_
                                        refine lv_iload_n hx hb dL_law_556 rfl (lv_at hl 3 rfl) ?_
                                        refine lv_iconst (v := (2 : Int32)) hx hb dL_law_557 (by decide) ?_
                                        refine lv_iadd hx hb dL_law_558 ?_
                                        obtain ⟨hi_151, hf⟩ := hf
                                        refine va_sld hx hb hX hbl hbA hS hi_151 dL_law_559 ?_
                                        have hPc : va_P D classes (XW cI cZ cW Z Y (Z 1 0) (Z 2 0) S a) H := P_pre hP
                                        have hDc : va_D A (XW cI cZ cW Z Y (Z 1 0) (Z 2 0) S a) := D_pre hD
                                        have hFc := va_freeX hDc hS hA
                                        refine va_calli (va_runV (As := [.int (xs (x3 + (1 : Int32)).toNatClampNeg), .int (xs (x3 + (2 : Int32)).toNatClampNeg)]) (rest := []) ⟨hx, hb, hml, hown, hts⟩ (c_X6_ahead l D cI cZ cW Z Y H.size (xs (x3 + (1 : Int32)).toNatClampNeg) (xs (x3 + (2 : Int32)).toNatClampNeg) S a _ hf) ⟨callB_of 2 hts (gT tw_506) rfl rfl rfl (ht _ tw_1) (ht _ tw_503) hd_X6_ahead ⟨Nat.le_of_ble_eq_true rfl, Nat.le_of_ble_eq_true rfl⟩, ht _ tw_504, ht _ tw_505⟩ ⟨PW_blind, va_recv hK hPc (ci := 4) (q0 := 0) rfl eX_0, fun U hU hW => PW_mk hPc hDc hK hU hW⟩ rfl rfl hl.1 rfl (lv_room (Nat.le_of_ble_eq_true rfl)) dL_law_560 ⟨Nat.le_of_ble_eq_true rfl, Nat.le_of_ble_eq_true rfl⟩) hS (fun q _ h => hFc q h) hFc (fun r_152 u t H1 locs ht1 hvm hf hB hz1 hk1 hS => ?_)
                                        obtain ⟨S_153, a_154⟩ := u
                                        dsimp only at hf hB
                                        rw [ht1] at hB
                                        have hP := cjP hP hD hk1 hB
                                        have hD : va_D A ((XW cI cZ cW Z Y (Z 1 0) (Z 2 0) S_153 a_154) ++ wM cI cZ q9 s9) := D_L hD
                                        generalize H1 = H at hP hS ⊢
                                        refine W.eq (g2 := F0 m 563 ls [.int r_152]) rfl ?_
                                        refine lv_aload_n hx hb dL_law_563 rfl (lv_at hl 2 rfl) ?_
                                        refine lv_aload_n hx hb dL_law_564 rfl (lv_at hl 0 rfl) ?_
                                        refine lv_iload_n hx hb dL_law_565 rfl (lv_at hl 3 rfl) ?_
                                        refine lv_iconst (v := (1 : Int32)) hx hb dL_law_566 (by decide) ?_
                                        refine lv_iadd hx hb dL_law_567 ?_
                                        obtain ⟨hi_155, hf⟩ := hf
                                        refine va_sld hx hb hX hbl hbA hS hi_155 dL_law_568 ?_
                                        refine lv_aload_n hx hb dL_law_569 rfl (lv_at hl 0 rfl) ?_
                                        refine lv_iload_n hx hb dL_law_570 rfl (lv_at hl 3 rfl) ?_
                                        refine lv_iconst (v := (2 : Int32)) hx hb dL_law_571 (by decide) ?_
                                        refine lv_iadd hx hb dL_law_572 ?_
                                        obtain ⟨hi_156, hf⟩ := hf
                                        refine va_sld hx hb hX hbl hbA hS hi_156 dL_law_573 ?_
                                        have hPc : va_P D classes (wM cI cZ q9 s9) H := P_suf hP
                                        have hDc : va_D A (wM cI cZ q9 s9) := D_suf hD
                                        have hFc := va_freeX hDc hS hA
                                        refine va_calli (va_runV (As := [.int (xs (x3 + (1 : Int32)).toNatClampNeg), .int (xs (x3 + (2 : Int32)).toNatClampNeg)]) (rest := [.int r_152]) ⟨hx, hb, hml, hown, hts⟩ (c_X7_ahead l D cI cZ cW q9 H.size (xs (x3 + (1 : Int32)).toNatClampNeg) (xs (x3 + (2 : Int32)).toNatClampNeg) s9 _ hf) ⟨callB_of 2 hts (gT tw_931) rfl rfl rfl (ht _ tw_7) (ht _ tw_928) hd_X7_ahead ⟨Nat.le_of_ble_eq_true rfl, Nat.le_of_ble_eq_true rfl⟩, ht _ tw_929, ht _ tw_930⟩ ⟨PW_blind, va_recv hK hPc (ci := 5) (q0 := 0) rfl eM_0, fun U hU hW => PW_mk hPc hDc hK hU hW⟩ rfl rfl hl.1 rfl (lv_room (Nat.le_of_ble_eq_true rfl)) dL_law_574 ⟨Nat.le_of_ble_eq_true rfl, Nat.le_of_ble_eq_true rfl⟩) hS (fun q _ h => hFc q h) hFc (fun r_157 u t H1 locs ht1 hvm hf hB hz1 hk1 hS => ?_)
                                        obtain ⟨s9_158, rfl⟩ : ∃ z, z = u := ⟨_, rfl⟩
                                        rw [ht1] at hB
                                        have hP := cjT hP hD hk1 hB
                                        have hD : va_D A ((XW cI cZ cW Z Y (Z 1 0) (Z 2 0) S_153 a_154) ++ wM cI cZ q9 s9_158) := D_L hD
                                        generalize H1 = H at hP hS ⊢
                                        refine W.eq (g2 := F0 m 577 ls [.int r_157, .int r_152]) rfl ?_
                                        refine lv_icmp_eq (tgt := 1074) hx hb dL_law_577 (by decide) (fun c_159 => ?_) (fun c_159 => ?_)
                                        · have hf := hf.1 c_159
                                          exact k_1074 x3 Z S_153 a_154 s9_158 H locs ls hf hP hD hS (lv_sub hl [0, 1, 2, 3] rfl)
                                        · have hf := hf.2 c_159
                                          refine lv_iconst (v := (0 : Int32)) hx hb dL_law_580 (by decide) ?_
                                          exact hf.elim
                                      · have hf := hf.2 c_149
                                        by_cases c_160 : ((xs x3.toNatClampNeg) &&& (31 : Int32)) = (16 : Int32)
                                        · have hf := hf.1 c_160
                                          refine lv_tableIn (off := 550) (tgt := 582) hx hb dL_law_32 (by rw [c_160]; decide) (by rw [c_160]; decide) (by rw [c_160]; first | done | rfl) (by decide) ?_
                                          refine lv_aload_n hx hb dL_law_582 rfl (lv_at hl 1 rfl) ?_
                                          refine lv_aload_n hx hb dL_law_583 rfl (lv_at hl 0 rfl) ?_
                                          refine lv_iload_n hx hb dL_law_584 rfl (lv_at hl 3 rfl) ?_
                                          refine lv_iconst (v := (1 : Int32)) hx hb dL_law_585 (by decide) ?_
                                          refine lv_iadd hx hb dL_law_586 ?_
                                          obtain ⟨hi_161, hf⟩ := hf
                                          refine va_sld hx hb hX hbl hbA hS hi_161 dL_law_587 ?_
                                          refine lv_aload_n hx hb dL_law_588 rfl (lv_at hl 0 rfl) ?_
                                          refine lv_iload_n hx hb dL_law_589 rfl (lv_at hl 3 rfl) ?_
                                          refine lv_iconst (v := (2 : Int32)) hx hb dL_law_590 (by decide) ?_
                                          refine lv_iadd hx hb dL_law_591 ?_
                                          obtain ⟨hi_162, hf⟩ := hf
                                          refine va_sld hx hb hX hbl hbA hS hi_162 dL_law_592 ?_
                                          refine lv_aload_n hx hb dL_law_593 rfl (lv_at hl 0 rfl) ?_
                                          refine lv_iload_n hx hb dL_law_594 rfl (lv_at hl 3 rfl) ?_
                                          refine lv_iconst (v := (3 : Int32)) hx hb dL_law_595 (by decide) ?_
                                          refine lv_iadd hx hb dL_law_596 ?_
                                          obtain ⟨hi_163, hf⟩ := hf
                                          refine va_sld hx hb hX hbl hbA hS hi_163 dL_law_597 ?_
                                          have hPc : va_P D classes (XW cI cZ cW Z Y (Z 1 0) (Z 2 0) S a) H := P_pre hP
                                          refine vp_callSi (W.runV (As := [.int (xs (x3 + (1 : Int32)).toNatClampNeg), .int (xs (x3 + (2 : Int32)).toNatClampNeg), .int (xs (x3 + (3 : Int32)).toNatClampNeg)]) (rest := []) ⟨hx, hb, hml, hown, hts⟩ (c_X6_cut l D cI cZ cW Z Y (xs (x3 + (1 : Int32)).toNatClampNeg) (xs (x3 + (2 : Int32)).toNatClampNeg) (xs (x3 + (3 : Int32)).toNatClampNeg) S a _ hf) ⟨callB_of 3 hts (gT tw_515) rfl rfl rfl (ht _ tw_1) (ht _ tw_512) hd_X6_cut ⟨Nat.le_of_ble_eq_true rfl, Nat.le_of_ble_eq_true rfl⟩, ht _ tw_513, ht _ tw_514⟩ ⟨PR_blind, va_recv hK hPc (ci := 4) (q0 := 0) rfl eX_0, fun U hU hW => PR_mk hPc hK hU hW⟩ rfl rfl hl.1 rfl (lv_room (Nat.le_of_ble_eq_true rfl)) dL_law_598 ⟨Nat.le_of_ble_eq_true rfl, Nat.le_of_ble_eq_true rfl⟩) (fun r_164 hf => ?_)
                                          refine lv_aload_n hx hb dL_law_601 rfl (lv_at hl 2 rfl) ?_
                                          refine lv_aload_n hx hb dL_law_602 rfl (lv_at hl 0 rfl) ?_
                                          refine lv_iload_n hx hb dL_law_603 rfl (lv_at hl 3 rfl) ?_
                                          refine lv_iconst (v := (1 : Int32)) hx hb dL_law_604 (by decide) ?_
                                          refine lv_iadd hx hb dL_law_605 ?_
                                          obtain ⟨hi_165, hf⟩ := hf
                                          refine va_sld hx hb hX hbl hbA hS hi_165 dL_law_606 ?_
                                          refine lv_aload_n hx hb dL_law_607 rfl (lv_at hl 0 rfl) ?_
                                          refine lv_iload_n hx hb dL_law_608 rfl (lv_at hl 3 rfl) ?_
                                          refine lv_iconst (v := (2 : Int32)) hx hb dL_law_609 (by decide) ?_
                                          refine lv_iadd hx hb dL_law_610 ?_
                                          obtain ⟨hi_166, hf⟩ := hf
                                          refine va_sld hx hb hX hbl hbA hS hi_166 dL_law_611 ?_
                                          refine lv_aload_n hx hb dL_law_612 rfl (lv_at hl 0 rfl) ?_
                                          refine lv_iload_n hx hb dL_law_613 rfl (lv_at hl 3 rfl) ?_
                                          refine lv_iconst (v := (3 : Int32)) hx hb dL_law_614 (by decide) ?_
                                          refine lv_iadd hx hb dL_law_615 ?_
                                          obtain ⟨hi_167, hf⟩ := hf
                                          refine va_sld hx hb hX hbl hbA hS hi_167 dL_law_616 ?_
                                          have hPc : va_P D classes (wM cI cZ q9 s9) H := P_suf hP
                                          refine vp_callSi (W.runV (As := [.int (xs (x3 + (1 : Int32)).toNatClampNeg), .int (xs (x3 + (2 : Int32)).toNatClampNeg), .int (xs (x3 + (3 : Int32)).toNatClampNeg)]) (rest := [.int r_164]) ⟨hx, hb, hml, hown, hts⟩ (c_X7_cut l D cI cZ cW q9 (xs (x3 + (1 : Int32)).toNatClampNeg) (xs (x3 + (2 : Int32)).toNatClampNeg) (xs (x3 + (3 : Int32)).toNatClampNeg) s9 _ hf) ⟨callB_of 3 hts (gT tw_940) rfl rfl rfl (ht _ tw_7) (ht _ tw_937) hd_X7_cut ⟨Nat.le_of_ble_eq_true rfl, Nat.le_of_ble_eq_true rfl⟩, ht _ tw_938, ht _ tw_939⟩ ⟨PR_blind, va_recv hK hPc (ci := 5) (q0 := 0) rfl eM_0, fun U hU hW => PR_mk hPc hK hU hW⟩ rfl rfl hl.1 rfl (lv_room (Nat.le_of_ble_eq_true rfl)) dL_law_617 ⟨Nat.le_of_ble_eq_true rfl, Nat.le_of_ble_eq_true rfl⟩) (fun r_168 hf => ?_)
                                          refine lv_icmp_eq (tgt := 1074) hx hb dL_law_620 (by decide) (fun c_169 => ?_) (fun c_169 => ?_)
                                          · have hf := hf.1 c_169
                                            exact k_1074 x3 Z S a s9 H locs ls hf hP hD hS (lv_sub hl [0, 1, 2, 3] rfl)
                                          · have hf := hf.2 c_169
                                            refine lv_iconst (v := (0 : Int32)) hx hb dL_law_623 (by decide) ?_
                                            exact hf.elim
                                        · have hf := hf.2 c_160
                                          by_cases c_170 : ((xs x3.toNatClampNeg) &&& (31 : Int32)) = (17 : Int32)
                                          · have hf := hf.1 c_170
                                            refine lv_tableIn (off := 593) (tgt := 625) hx hb dL_law_32 (by rw [c_170]; decide) (by rw [c_170]; decide) (by rw [c_170]; first | done | rfl) (by decide) ?_
                                            refine lv_aload_n hx hb dL_law_625 rfl (lv_at hl 1 rfl) ?_
                                            refine lv_aload_n hx hb dL_law_626 rfl (lv_at hl 0 rfl) ?_
                                            refine lv_iload_n hx hb dL_law_627 rfl (lv_at hl 3 rfl) ?_
                                            refine lv_iconst (v := (1 : Int32)) hx hb dL_law_628 (by decide) ?_
                                            refine lv_iadd hx hb dL_law_629 ?_
                                            obtain ⟨hi_171, hf⟩ := hf
                                            refine va_sld hx hb hX hbl hbA hS hi_171 dL_law_630 ?_
                                            refine lv_aload_n hx hb dL_law_631 rfl (lv_at hl 0 rfl) ?_
                                            refine lv_iload_n hx hb dL_law_632 rfl (lv_at hl 3 rfl) ?_
                                            refine lv_iconst (v := (2 : Int32)) hx hb dL_law_633 (by decide) ?_
                                            refine lv_iadd hx hb dL_law_634 ?_
                                            obtain ⟨hi_172, hf⟩ := hf
                                            refine va_sld hx hb hX hbl hbA hS hi_172 dL_law_635 ?_
                                            refine lv_i2l (v := (xs (x3 + (2 : Int32)).toNatClampNeg).toInt64) hx hb dL_law_636 rfl ?_
                                            refine lv_bipush (v := (32 : Int32)) hx hb dL_law_637 (by decide) ?_
                                            refine lv_lshl (v := ((xs (x3 + (2 : Int32)).toNatClampNeg).toInt64 <<< ((32 : Int32).toInt64 &&& 63))) hx hb dL_law_639 rfl ?_
                                            refine lv_aload_n hx hb dL_law_640 rfl (lv_at hl 0 rfl) ?_
                                            refine lv_iload_n hx hb dL_law_641 rfl (lv_at hl 3 rfl) ?_
                                            refine lv_iconst (v := (3 : Int32)) hx hb dL_law_642 (by decide) ?_
                                            refine lv_iadd hx hb dL_law_643 ?_
                                            obtain ⟨hi_173, hf⟩ := hf
                                            refine va_sld hx hb hX hbl hbA hS hi_173 dL_law_644 ?_
                                            refine lv_i2l (v := (xs (x3 + (3 : Int32)).toNatClampNeg).toInt64) hx hb dL_law_645 rfl ?_
                                            refine lv_ldc2 (v := (4294967295 : Int64)) hx hb hown (ht _ tw_1026) dL_law_646 ?_
                                            refine lv_land hx hb dL_law_649 ?_
                                            refine lv_lor hx hb dL_law_650 ?_
                                            have hPc : va_P D classes (XW cI cZ cW Z Y (Z 1 0) (Z 2 0) S a) H := P_pre hP
                                            have hDc : va_D A (XW cI cZ cW Z Y (Z 1 0) (Z 2 0) S a) := D_pre hD
                                            have hFc := va_freeX hDc hS hA
                                            refine va_calli (va_runV (As := [.int (xs (x3 + (1 : Int32)).toNatClampNeg), .long (((xs (x3 + (2 : Int32)).toNatClampNeg).toInt64 <<< ((32 : Int32).toInt64 &&& 63)) ||| ((xs (x3 + (3 : Int32)).toNatClampNeg).toInt64 &&& (4294967295 : Int64)))]) (rest := []) ⟨hx, hb, hml, hown, hts⟩ (c_X6_judge l D cI cZ cW Z Y H.size (xs (x3 + (1 : Int32)).toNatClampNeg) (((xs (x3 + (2 : Int32)).toNatClampNeg).toInt64 <<< ((32 : Int32).toInt64 &&& 63)) ||| ((xs (x3 + (3 : Int32)).toNatClampNeg).toInt64 &&& (4294967295 : Int64))) S a _ hf) ⟨callB_of 2 hts (gT tw_522) rfl rfl rfl (ht _ tw_1) (ht _ tw_519) hd_X6_judge ⟨Nat.le_of_ble_eq_true rfl, Nat.le_of_ble_eq_true rfl⟩, ht _ tw_520, ht _ tw_521⟩ ⟨PW_blind, va_recv hK hPc (ci := 4) (q0 := 0) rfl eX_0, fun U hU hW => PW_mk hPc hDc hK hU hW⟩ rfl rfl hl.1 rfl (lv_room (Nat.le_of_ble_eq_true rfl)) dL_law_651 ⟨Nat.le_of_ble_eq_true rfl, Nat.le_of_ble_eq_true rfl⟩) hS (fun q _ h => hFc q h) hFc (fun r_174 u t H1 locs ht1 hvm hf hB hz1 hk1 hS => ?_)
                                            obtain ⟨S_175, a_176⟩ := u
                                            dsimp only at hf hB
                                            rw [ht1] at hB
                                            have hP := cjP hP hD hk1 hB
                                            have hD : va_D A ((XW cI cZ cW Z Y (Z 1 0) (Z 2 0) S_175 a_176) ++ wM cI cZ q9 s9) := D_L hD
                                            generalize H1 = H at hP hS ⊢
                                            refine W.eq (g2 := F0 m 654 ls [.int r_174]) rfl ?_
                                            refine lv_aload_n hx hb dL_law_654 rfl (lv_at hl 2 rfl) ?_
                                            refine lv_aload_n hx hb dL_law_655 rfl (lv_at hl 0 rfl) ?_
                                            refine lv_iload_n hx hb dL_law_656 rfl (lv_at hl 3 rfl) ?_
                                            refine lv_iconst (v := (1 : Int32)) hx hb dL_law_657 (by decide) ?_
                                            refine lv_iadd hx hb dL_law_658 ?_
                                            obtain ⟨hi_177, hf⟩ := hf
                                            refine va_sld hx hb hX hbl hbA hS hi_177 dL_law_659 ?_
                                            refine lv_aload_n hx hb dL_law_660 rfl (lv_at hl 0 rfl) ?_
                                            refine lv_iload_n hx hb dL_law_661 rfl (lv_at hl 3 rfl) ?_
                                            refine lv_iconst (v := (2 : Int32)) hx hb dL_law_662 (by decide) ?_
                                            refine lv_iadd hx hb dL_law_663 ?_
                                            obtain ⟨hi_178, hf⟩ := hf
                                            refine va_sld hx hb hX hbl hbA hS hi_178 dL_law_664 ?_
                                            refine lv_i2l (v := (xs (x3 + (2 : Int32)).toNatClampNeg).toInt64) hx hb dL_law_665 rfl ?_
                                            refine lv_bipush (v := (32 : Int32)) hx hb dL_law_666 (by decide) ?_
                                            refine lv_lshl (v := ((xs (x3 + (2 : Int32)).toNatClampNeg).toInt64 <<< ((32 : Int32).toInt64 &&& 63))) hx hb dL_law_668 rfl ?_
                                            refine lv_aload_n hx hb dL_law_669 rfl (lv_at hl 0 rfl) ?_
                                            refine lv_iload_n hx hb dL_law_670 rfl (lv_at hl 3 rfl) ?_
                                            refine lv_iconst (v := (3 : Int32)) hx hb dL_law_671 (by decide) ?_
                                            refine lv_iadd hx hb dL_law_672 ?_
                                            obtain ⟨hi_179, hf⟩ := hf
                                            refine va_sld hx hb hX hbl hbA hS hi_179 dL_law_673 ?_
                                            refine lv_i2l (v := (xs (x3 + (3 : Int32)).toNatClampNeg).toInt64) hx hb dL_law_674 rfl ?_
                                            refine lv_ldc2 (v := (4294967295 : Int64)) hx hb hown (ht _ tw_1026) dL_law_675 ?_
                                            refine lv_land hx hb dL_law_678 ?_
                                            refine lv_lor hx hb dL_law_679 ?_
                                            have hPc : va_P D classes (wM cI cZ q9 s9) H := P_suf hP
                                            have hDc : va_D A (wM cI cZ q9 s9) := D_suf hD
                                            have hFc := va_freeX hDc hS hA
                                            refine va_calli (va_runV (As := [.int (xs (x3 + (1 : Int32)).toNatClampNeg), .long (((xs (x3 + (2 : Int32)).toNatClampNeg).toInt64 <<< ((32 : Int32).toInt64 &&& 63)) ||| ((xs (x3 + (3 : Int32)).toNatClampNeg).toInt64 &&& (4294967295 : Int64)))]) (rest := [.int r_174]) ⟨hx, hb, hml, hown, hts⟩ (c_X7_judge l D cI cZ cW q9 H.size (xs (x3 + (1 : Int32)).toNatClampNeg) (((xs (x3 + (2 : Int32)).toNatClampNeg).toInt64 <<< ((32 : Int32).toInt64 &&& 63)) ||| ((xs (x3 + (3 : Int32)).toNatClampNeg).toInt64 &&& (4294967295 : Int64))) s9 _ hf) ⟨callB_of 2 hts (gT tw_944) rfl rfl rfl (ht _ tw_7) (ht _ tw_941) hd_X7_judge ⟨Nat.le_of_ble_eq_true rfl, Nat.le_of_ble_eq_true rfl⟩, ht _ tw_942, ht _ tw_943⟩ ⟨PW_blind, va_recv hK hPc (ci := 5) (q0 := 0) rfl eM_0, fun U hU hW => PW_mk hPc hDc hK hU hW⟩ rfl rfl hl.1 rfl (lv_room (Nat.le_of_ble_eq_true rfl)) dL_law_680 ⟨Nat.le_of_ble_eq_true rfl, Nat.le_of_ble_eq_true rfl⟩) hS (fun q _ h => hFc q h) hFc (fun r_180 u t H1 locs ht1 hvm hf hB hz1 hk1 hS => ?_)
                                            obtain ⟨s9_181, rfl⟩ : ∃ z, z = u := ⟨_, rfl⟩
                                            rw [ht1] at hB
                                            have hP := cjT hP hD hk1 hB
                                            have hD : va_D A ((XW cI cZ cW Z Y (Z 1 0) (Z 2 0) S_175 a_176) ++ wM cI cZ q9 s9_181) := D_L hD
                                            generalize H1 = H at hP hS ⊢
                                            refine W.eq (g2 := F0 m 683 ls [.int r_180, .int r_174]) rfl ?_
                                            refine lv_icmp_eq (tgt := 1074) hx hb dL_law_683 (by decide) (fun c_182 => ?_) (fun c_182 => ?_)
                                            · have hf := hf.1 c_182
                                              exact k_1074 x3 Z S_175 a_176 s9_181 H locs ls hf hP hD hS (lv_sub hl [0, 1, 2, 3] rfl)
                                            · have hf := hf.2 c_182
                                              refine lv_iconst (v := (0 : Int32)) hx hb dL_law_686 (by decide) ?_
                                              exact hf.elim
                                          · have hf := hf.2 c_170
                                            by_cases c_183 : ((xs x3.toNatClampNeg) &&& (31 : Int32)) = (18 : Int32)
                                            · have hf := hf.1 c_183
                                              refine lv_tableIn (off := 656) (tgt := 688) hx hb dL_law_32 (by rw [c_183]; decide) (by rw [c_183]; decide) (by rw [c_183]; first | done | rfl) (by decide) ?_
                                              refine lv_aload_n hx hb dL_law_688 rfl (lv_at hl 1 rfl) ?_
                                              refine lv_aload_n hx hb dL_law_689 rfl (lv_at hl 0 rfl) ?_
                                              refine lv_iload_n hx hb dL_law_690 rfl (lv_at hl 3 rfl) ?_
                                              refine lv_iconst (v := (1 : Int32)) hx hb dL_law_691 (by decide) ?_
                                              refine lv_iadd hx hb dL_law_692 ?_
                                              obtain ⟨hi_184, hf⟩ := hf
                                              refine va_sld hx hb hX hbl hbA hS hi_184 dL_law_693 ?_
                                              refine lv_aload_n hx hb dL_law_694 rfl (lv_at hl 0 rfl) ?_
                                              refine lv_iload_n hx hb dL_law_695 rfl (lv_at hl 3 rfl) ?_
                                              refine lv_iconst (v := (2 : Int32)) hx hb dL_law_696 (by decide) ?_
                                              refine lv_iadd hx hb dL_law_697 ?_
                                              obtain ⟨hi_185, hf⟩ := hf
                                              refine va_sld hx hb hX hbl hbA hS hi_185 dL_law_698 ?_
                                              refine lv_aload_n hx hb dL_law_699 rfl (lv_at hl 0 rfl) ?_
                                              refine lv_iload_n hx hb dL_law_700 rfl (lv_at hl 3 rfl) ?_
                                              refine lv_iconst (v := (3 : Int32)) hx hb dL_law_701 (by decide) ?_
                                              refine lv_iadd hx hb dL_law_702 ?_
                                              obtain ⟨hi_186, hf⟩ := hf
                                              refine va_sld hx hb hX hbl hbA hS hi_186 dL_law_703 ?_
                                              have hPc : va_P D classes (XW cI cZ cW Z Y (Z 1 0) (Z 2 0) S a) H := P_pre hP
                                              have hDc : va_D A (XW cI cZ cW Z Y (Z 1 0) (Z 2 0) S a) := D_pre hD
                                              have hFc := va_freeX hDc hS hA
                                              refine va_calli (va_runV (As := [.int (xs (x3 + (1 : Int32)).toNatClampNeg), .int (xs (x3 + (2 : Int32)).toNatClampNeg), .int (xs (x3 + (3 : Int32)).toNatClampNeg)]) (rest := []) ⟨hx, hb, hml, hown, hts⟩ (c_X6_taste l D cI cZ cW Z Y H.size (xs (x3 + (1 : Int32)).toNatClampNeg) (xs (x3 + (2 : Int32)).toNatClampNeg) (xs (x3 + (3 : Int32)).toNatClampNeg) S a _ hf) ⟨callB_of 3 hts (gT tw_537) rfl rfl rfl (ht _ tw_1) (ht _ tw_534) hd_X6_taste ⟨Nat.le_of_ble_eq_true rfl, Nat.le_of_ble_eq_true rfl⟩, ht _ tw_535, ht _ tw_536⟩ ⟨PW_blind, va_recv hK hPc (ci := 4) (q0 := 0) rfl eX_0, fun U hU hW => PW_mk hPc hDc hK hU hW⟩ rfl rfl hl.1 rfl (lv_room (Nat.le_of_ble_eq_true rfl)) dL_law_704 ⟨Nat.le_of_ble_eq_true rfl, Nat.le_of_ble_eq_true rfl⟩) hS (fun q _ h => hFc q h) hFc (fun r_187 u t H1 locs ht1 hvm hf hB hz1 hk1 hS => ?_)
                                              obtain ⟨S_188, a_189⟩ := u
                                              dsimp only at hf hB
                                              rw [ht1] at hB
                                              have hP := cjP hP hD hk1 hB
                                              have hD : va_D A ((XW cI cZ cW Z Y (Z 1 0) (Z 2 0) S_188 a_189) ++ wM cI cZ q9 s9) := D_L hD
                                              generalize H1 = H at hP hS ⊢
                                              refine W.eq (g2 := F0 m 707 ls [.int r_187]) rfl ?_
                                              refine lv_aload_n hx hb dL_law_707 rfl (lv_at hl 2 rfl) ?_
                                              refine lv_aload_n hx hb dL_law_708 rfl (lv_at hl 0 rfl) ?_
                                              refine lv_iload_n hx hb dL_law_709 rfl (lv_at hl 3 rfl) ?_
                                              refine lv_iconst (v := (1 : Int32)) hx hb dL_law_710 (by decide) ?_
                                              refine lv_iadd hx hb dL_law_711 ?_
                                              obtain ⟨hi_190, hf⟩ := hf
                                              refine va_sld hx hb hX hbl hbA hS hi_190 dL_law_712 ?_
                                              refine lv_aload_n hx hb dL_law_713 rfl (lv_at hl 0 rfl) ?_
                                              refine lv_iload_n hx hb dL_law_714 rfl (lv_at hl 3 rfl) ?_
                                              refine lv_iconst (v := (2 : Int32)) hx hb dL_law_715 (by decide) ?_
                                              refine lv_iadd hx hb dL_law_716 ?_
                                              obtain ⟨hi_191, hf⟩ := hf
                                              refine va_sld hx hb hX hbl hbA hS hi_191 dL_law_717 ?_
                                              refine lv_aload_n hx hb dL_law_718 rfl (lv_at hl 0 rfl) ?_
                                              refine lv_iload_n hx hb dL_law_719 rfl (lv_at hl 3 rfl) ?_
                                              refine lv_iconst (v := (3 : Int32)) hx hb dL_law_720 (by decide) ?_
                                              refine lv_iadd hx hb dL_law_721 ?_
                                              obtain ⟨hi_192, hf⟩ := hf
                                              refine va_sld hx hb hX hbl hbA hS hi_192 dL_law_722 ?_
                                              have hPc : va_P D classes (wM cI cZ q9 s9) H := P_suf hP
                                              have hDc : va_D A (wM cI cZ q9 s9) := D_suf hD
                                              have hFc := va_freeX hDc hS hA
                                              refine va_calli (va_runV (As := [.int (xs (x3 + (1 : Int32)).toNatClampNeg), .int (xs (x3 + (2 : Int32)).toNatClampNeg), .int (xs (x3 + (3 : Int32)).toNatClampNeg)]) (rest := [.int r_187]) ⟨hx, hb, hml, hown, hts⟩ (c_X7_taste l D cI cZ cW q9 H.size (xs (x3 + (1 : Int32)).toNatClampNeg) (xs (x3 + (2 : Int32)).toNatClampNeg) (xs (x3 + (3 : Int32)).toNatClampNeg) s9 _ hf) ⟨callB_of 3 hts (gT tw_957) rfl rfl rfl (ht _ tw_7) (ht _ tw_954) hd_X7_taste ⟨Nat.le_of_ble_eq_true rfl, Nat.le_of_ble_eq_true rfl⟩, ht _ tw_955, ht _ tw_956⟩ ⟨PW_blind, va_recv hK hPc (ci := 5) (q0 := 0) rfl eM_0, fun U hU hW => PW_mk hPc hDc hK hU hW⟩ rfl rfl hl.1 rfl (lv_room (Nat.le_of_ble_eq_true rfl)) dL_law_723 ⟨Nat.le_of_ble_eq_true rfl, Nat.le_of_ble_eq_true rfl⟩) hS (fun q _ h => hFc q h) hFc (fun r_193 u t H1 locs ht1 hvm hf hB hz1 hk1 hS => ?_)
                                              obtain ⟨s9_194, rfl⟩ : ∃ z, z = u := ⟨_, rfl⟩
                                              rw [ht1] at hB
                                              have hP := cjT hP hD hk1 hB
                                              have hD : va_D A ((XW cI cZ cW Z Y (Z 1 0) (Z 2 0) S_188 a_189) ++ wM cI cZ q9 s9_194) := D_L hD
                                              generalize H1 = H at hP hS ⊢
                                              refine W.eq (g2 := F0 m 726 ls [.int r_193, .int r_187]) rfl ?_
                                              refine lv_icmp_eq (tgt := 1074) hx hb dL_law_726 (by decide) (fun c_195 => ?_) (fun c_195 => ?_)
                                              · have hf := hf.1 c_195
                                                exact k_1074 x3 Z S_188 a_189 s9_194 H locs ls hf hP hD hS (lv_sub hl [0, 1, 2, 3] rfl)
                                              · have hf := hf.2 c_195
                                                refine lv_iconst (v := (0 : Int32)) hx hb dL_law_729 (by decide) ?_
                                                exact hf.elim
                                            · have hf := hf.2 c_183
                                              by_cases c_196 : ((xs x3.toNatClampNeg) &&& (31 : Int32)) = (19 : Int32)
                                              · have hf := hf.1 c_196
                                                refine lv_tableIn (off := 699) (tgt := 731) hx hb dL_law_32 (by rw [c_196]; decide) (by rw [c_196]; decide) (by rw [c_196]; first | done | rfl) (by decide) ?_
                                                refine lv_aload_n hx hb dL_law_731 rfl (lv_at hl 1 rfl) ?_
                                                have hPc : va_P D classes (XW cI cZ cW Z Y (Z 1 0) (Z 2 0) S a) H := P_pre hP
                                                have hDc : va_D A (XW cI cZ cW Z Y (Z 1 0) (Z 2 0) S a) := D_pre hD
                                                have hFc := va_freeX hDc hS hA
                                                refine va_calli (va_runV (As := []) (rest := []) ⟨hx, hb, hml, hown, hts⟩ (c_X6_rinse l D cI cZ cW Z Y H.size S a _ hf) ⟨callB_of 0 hts (gT tw_545) rfl rfl rfl (ht _ tw_1) (ht _ tw_542) hd_X6_rinse ⟨Nat.le_of_ble_eq_true rfl, Nat.le_of_ble_eq_true rfl⟩, ht _ tw_543, ht _ tw_544⟩ ⟨PW_blind, va_recv hK hPc (ci := 4) (q0 := 0) rfl eX_0, fun U hU hW => PW_mk hPc hDc hK hU hW⟩ rfl rfl hl.1 rfl (lv_room (Nat.le_of_ble_eq_true rfl)) dL_law_732 ⟨Nat.le_of_ble_eq_true rfl, Nat.le_of_ble_eq_true rfl⟩) hS (fun q _ h => hFc q h) hFc (fun r_197 u t H1 locs ht1 hvm hf hB hz1 hk1 hS => ?_)
                                                obtain ⟨S_198, a_199⟩ := u
                                                dsimp only at hf hB
                                                rw [ht1] at hB
                                                have hP := cjP hP hD hk1 hB
                                                have hD : va_D A ((XW cI cZ cW Z Y (Z 1 0) (Z 2 0) S_198 a_199) ++ wM cI cZ q9 s9) := D_L hD
                                                generalize H1 = H at hP hS ⊢
                                                refine W.eq (g2 := F0 m 735 ls [.int r_197]) rfl ?_
                                                refine lv_aload_n hx hb dL_law_735 rfl (lv_at hl 2 rfl) ?_
                                                have hPc : va_P D classes (wM cI cZ q9 s9) H := P_suf hP
                                                have hDc : va_D A (wM cI cZ q9 s9) := D_suf hD
                                                have hFc := va_freeX hDc hS hA
                                                refine va_calli (va_runV (As := []) (rest := [.int r_197]) ⟨hx, hb, hml, hown, hts⟩ (c_X7_rinse l D cI cZ cW q9 H.size s9 _ hf) ⟨callB_of 0 hts (gT tw_962) rfl rfl rfl (ht _ tw_7) (ht _ tw_959) hd_X7_rinse ⟨Nat.le_of_ble_eq_true rfl, Nat.le_of_ble_eq_true rfl⟩, ht _ tw_960, ht _ tw_961⟩ ⟨PW_blind, va_recv hK hPc (ci := 5) (q0 := 0) rfl eM_0, fun U hU hW => PW_mk hPc hDc hK hU hW⟩ rfl rfl hl.1 rfl (lv_room (Nat.le_of_ble_eq_true rfl)) dL_law_736 ⟨Nat.le_of_ble_eq_true rfl, Nat.le_of_ble_eq_true rfl⟩) hS (fun q _ h => hFc q h) hFc (fun r_200 u t H1 locs ht1 hvm hf hB hz1 hk1 hS => ?_)
                                                obtain ⟨s9_201, rfl⟩ : ∃ z, z = u := ⟨_, rfl⟩
                                                rw [ht1] at hB
                                                have hP := cjT hP hD hk1 hB
                                                have hD : va_D A ((XW cI cZ cW Z Y (Z 1 0) (Z 2 0) S_198 a_199) ++ wM cI cZ q9 s9_201) := D_L hD
                                                generalize H1 = H at hP hS ⊢
                                                refine W.eq (g2 := F0 m 739 ls [.int r_200, .int r_197]) rfl ?_
                                                refine lv_icmp_eq (tgt := 1074) hx hb dL_law_739 (by decide) (fun c_202 => ?_) (fun c_202 => ?_)
                                                · have hf := hf.1 c_202
                                                  exact k_1074 x3 Z S_198 a_199 s9_201 H locs ls hf hP hD hS (lv_sub hl [0, 1, 2, 3] rfl)
                                                · have hf := hf.2 c_202
                                                  refine lv_iconst (v := (0 : Int32)) hx hb dL_law_742 (by decide) ?_
                                                  exact hf.elim
                                              · have hf := hf.2 c_196
                                                by_cases c_203 : ((xs x3.toNatClampNeg) &&& (31 : Int32)) = (20 : Int32)
                                                · have hf := hf.1 c_203
                                                  refine lv_tableIn (off := 712) (tgt := 744) hx hb dL_law_32 (by rw [c_203]; decide) (by rw [c_203]; decide) (by rw [c_203]; first | done | rfl) (by decide) ?_
                                                  refine lv_aload_n hx hb dL_law_744 rfl (lv_at hl 1 rfl) ?_
                                                  refine lv_aload_n hx hb dL_law_745 rfl (lv_at hl 0 rfl) ?_
                                                  refine lv_iload_n hx hb dL_law_746 rfl (lv_at hl 3 rfl) ?_
                                                  refine lv_iconst (v := (1 : Int32)) hx hb dL_law_747 (by decide) ?_
                                                  refine lv_iadd hx hb dL_law_748 ?_
                                                  obtain ⟨hi_204, hf⟩ := hf
                                                  refine va_sld hx hb hX hbl hbA hS hi_204 dL_law_749 ?_
                                                  have hPc : va_P D classes (XW cI cZ cW Z Y (Z 1 0) (Z 2 0) S a) H := P_pre hP
                                                  have hDc : va_D A (XW cI cZ cW Z Y (Z 1 0) (Z 2 0) S a) := D_pre hD
                                                  have hFc := va_freeX hDc hS hA
                                                  refine va_calli (va_runV (As := [.int (xs (x3 + (1 : Int32)).toNatClampNeg)]) (rest := []) ⟨hx, hb, hml, hown, hts⟩ (c_X6_began l D cI cZ cW Z Y H.size (xs (x3 + (1 : Int32)).toNatClampNeg) S a _ hf) ⟨callB_of 1 hts (gT tw_549) rfl rfl rfl (ht _ tw_1) (ht _ tw_546) hd_X6_began ⟨Nat.le_of_ble_eq_true rfl, Nat.le_of_ble_eq_true rfl⟩, ht _ tw_547, ht _ tw_548⟩ ⟨PW_blind, va_recv hK hPc (ci := 4) (q0 := 0) rfl eX_0, fun U hU hW => PW_mk hPc hDc hK hU hW⟩ rfl rfl hl.1 rfl (lv_room (Nat.le_of_ble_eq_true rfl)) dL_law_750 ⟨Nat.le_of_ble_eq_true rfl, Nat.le_of_ble_eq_true rfl⟩) hS (fun q _ h => hFc q h) hFc (fun r_205 u t H1 locs ht1 hvm hf hB hz1 hk1 hS => ?_)
                                                  obtain ⟨S_206, a_207⟩ := u
                                                  dsimp only at hf hB
                                                  rw [ht1] at hB
                                                  have hP := cjP hP hD hk1 hB
                                                  have hD : va_D A ((XW cI cZ cW Z Y (Z 1 0) (Z 2 0) S_206 a_207) ++ wM cI cZ q9 s9) := D_L hD
                                                  generalize H1 = H at hP hS ⊢
                                                  refine W.eq (g2 := F0 m 753 ls [.int r_205]) rfl ?_
                                                  refine lv_aload_n hx hb dL_law_753 rfl (lv_at hl 2 rfl) ?_
                                                  refine lv_aload_n hx hb dL_law_754 rfl (lv_at hl 0 rfl) ?_
                                                  refine lv_iload_n hx hb dL_law_755 rfl (lv_at hl 3 rfl) ?_
                                                  refine lv_iconst (v := (1 : Int32)) hx hb dL_law_756 (by decide) ?_
                                                  refine lv_iadd hx hb dL_law_757 ?_
                                                  obtain ⟨hi_208, hf⟩ := hf
                                                  refine va_sld hx hb hX hbl hbA hS hi_208 dL_law_758 ?_
                                                  have hPc : va_P D classes (wM cI cZ q9 s9) H := P_suf hP
                                                  refine vp_callSi (W.runV (As := [.int (xs (x3 + (1 : Int32)).toNatClampNeg)]) (rest := [.int r_205]) ⟨hx, hb, hml, hown, hts⟩ (c_X7_began l D cI cZ cW q9 (xs (x3 + (1 : Int32)).toNatClampNeg) s9 _ hf) ⟨callB_of 1 hts (gT tw_966) rfl rfl rfl (ht _ tw_7) (ht _ tw_963) hd_X7_began ⟨Nat.le_of_ble_eq_true rfl, Nat.le_of_ble_eq_true rfl⟩, ht _ tw_964, ht _ tw_965⟩ ⟨PR_blind, va_recv hK hPc (ci := 5) (q0 := 0) rfl eM_0, fun U hU hW => PR_mk hPc hK hU hW⟩ rfl rfl hl.1 rfl (lv_room (Nat.le_of_ble_eq_true rfl)) dL_law_759 ⟨Nat.le_of_ble_eq_true rfl, Nat.le_of_ble_eq_true rfl⟩) (fun r_209 hf => ?_)
                                                  refine lv_icmp_eq (tgt := 1074) hx hb dL_law_762 (by decide) (fun c_210 => ?_) (fun c_210 => ?_)
                                                  · have hf := hf.1 c_210
                                                    exact k_1074 x3 Z S_206 a_207 s9 H locs ls hf hP hD hS (lv_sub hl [0, 1, 2, 3] rfl)
                                                  · have hf := hf.2 c_210
                                                    refine lv_iconst (v := (0 : Int32)) hx hb dL_law_765 (by decide) ?_
                                                    exact hf.elim
                                                · have hf := hf.2 c_203
                                                  by_cases c_211 : ((xs x3.toNatClampNeg) &&& (31 : Int32)) = (21 : Int32)
                                                  · have hf := hf.1 c_211
                                                    refine lv_tableIn (off := 735) (tgt := 767) hx hb dL_law_32 (by rw [c_211]; decide) (by rw [c_211]; decide) (by rw [c_211]; first | done | rfl) (by decide) ?_
                                                    refine lv_aload_n hx hb dL_law_767 rfl (lv_at hl 1 rfl) ?_
                                                    refine lv_aload_n hx hb dL_law_768 rfl (lv_at hl 0 rfl) ?_
                                                    refine lv_iload_n hx hb dL_law_769 rfl (lv_at hl 3 rfl) ?_
                                                    refine lv_iconst (v := (1 : Int32)) hx hb dL_law_770 (by decide) ?_
                                                    refine lv_iadd hx hb dL_law_771 ?_
                                                    obtain ⟨hi_212, hf⟩ := hf
                                                    refine va_sld hx hb hX hbl hbA hS hi_212 dL_law_772 ?_
                                                    refine lv_aload_n hx hb dL_law_773 rfl (lv_at hl 0 rfl) ?_
                                                    refine lv_iload_n hx hb dL_law_774 rfl (lv_at hl 3 rfl) ?_
                                                    refine lv_iconst (v := (2 : Int32)) hx hb dL_law_775 (by decide) ?_
                                                    refine lv_iadd hx hb dL_law_776 ?_
                                                    obtain ⟨hi_213, hf⟩ := hf
                                                    refine va_sld hx hb hX hbl hbA hS hi_213 dL_law_777 ?_
                                                    refine lv_if_eq (tgt := 785) hx hb dL_law_778 (by decide) (fun c_214 => ?_) (fun c_214 => ?_)
                                                    · have hf := hf.1 c_214
                                                      refine lv_iconst (v := (0 : Int32)) hx hb dL_law_785 (by decide) ?_
                                                      exact k_786 x3 (0 : Int32) (xs (x3 + (1 : Int32)).toNatClampNeg) Z S a s9 H locs ls hf hP hD hS (lv_sub hl [0, 1, 2, 3] rfl)
                                                    · have hf := hf.2 c_214
                                                      refine lv_iconst (v := (1 : Int32)) hx hb dL_law_781 (by decide) ?_
                                                      refine lv_goto (tgt := 786) hx hb dL_law_782 (by decide) ?_
                                                      exact k_786 x3 (1 : Int32) (xs (x3 + (1 : Int32)).toNatClampNeg) Z S a s9 H locs ls hf hP hD hS (lv_sub hl [0, 1, 2, 3] rfl)
                                                  · have hf := hf.2 c_211
                                                    by_cases c_215 : ((xs x3.toNatClampNeg) &&& (31 : Int32)) = (22 : Int32)
                                                    · have hf := hf.1 c_215
                                                      refine lv_tableIn (off := 784) (tgt := 816) hx hb dL_law_32 (by rw [c_215]; decide) (by rw [c_215]; decide) (by rw [c_215]; first | done | rfl) (by decide) ?_
                                                      refine lv_aload_n hx hb dL_law_816 rfl (lv_at hl 1 rfl) ?_
                                                      refine lv_aload_n hx hb dL_law_817 rfl (lv_at hl 0 rfl) ?_
                                                      refine lv_iload_n hx hb dL_law_818 rfl (lv_at hl 3 rfl) ?_
                                                      refine lv_iconst (v := (1 : Int32)) hx hb dL_law_819 (by decide) ?_
                                                      refine lv_iadd hx hb dL_law_820 ?_
                                                      obtain ⟨hi_216, hf⟩ := hf
                                                      refine va_sld hx hb hX hbl hbA hS hi_216 dL_law_821 ?_
                                                      refine lv_aload_n hx hb dL_law_822 rfl (lv_at hl 0 rfl) ?_
                                                      refine lv_iload_n hx hb dL_law_823 rfl (lv_at hl 3 rfl) ?_
                                                      refine lv_iconst (v := (2 : Int32)) hx hb dL_law_824 (by decide) ?_
                                                      refine lv_iadd hx hb dL_law_825 ?_
                                                      obtain ⟨hi_217, hf⟩ := hf
                                                      refine va_sld hx hb hX hbl hbA hS hi_217 dL_law_826 ?_
                                                      refine lv_aload_n hx hb dL_law_827 rfl (lv_at hl 0 rfl) ?_
                                                      refine lv_iload_n hx hb dL_law_828 rfl (lv_at hl 3 rfl) ?_
                                                      refine lv_iconst (v := (3 : Int32)) hx hb dL_law_829 (by decide) ?_
                                                      refine lv_iadd hx hb dL_law_830 ?_
                                                      obtain ⟨hi_218, hf⟩ := hf
                                                      refine va_sld hx hb hX hbl hbA hS hi_218 dL_law_831 ?_
                                                      have hPc : va_P D classes (XW cI cZ cW Z Y (Z 1 0) (Z 2 0) S a) H := P_pre hP
                                                      refine vp_callSi (W.runV (As := [.int (xs (x3 + (1 : Int32)).toNatClampNeg), .int (xs (x3 + (2 : Int32)).toNatClampNeg), .int (xs (x3 + (3 : Int32)).toNatClampNeg)]) (rest := []) ⟨hx, hb, hml, hown, hts⟩ (c_X6_rests l D cI cZ cW Z Y (xs (x3 + (1 : Int32)).toNatClampNeg) (xs (x3 + (2 : Int32)).toNatClampNeg) (xs (x3 + (3 : Int32)).toNatClampNeg) S a _ hf) ⟨callB_of 3 hts (gT tw_595) rfl rfl rfl (ht _ tw_1) (ht _ tw_592) hd_X6_rests ⟨Nat.le_of_ble_eq_true rfl, Nat.le_of_ble_eq_true rfl⟩, ht _ tw_593, ht _ tw_594⟩ ⟨PR_blind, va_recv hK hPc (ci := 4) (q0 := 0) rfl eX_0, fun U hU hW => PR_mk hPc hK hU hW⟩ rfl rfl hl.1 rfl (lv_room (Nat.le_of_ble_eq_true rfl)) dL_law_832 ⟨Nat.le_of_ble_eq_true rfl, Nat.le_of_ble_eq_true rfl⟩) (fun r_219 hf => ?_)
                                                      refine lv_aload_n hx hb dL_law_835 rfl (lv_at hl 2 rfl) ?_
                                                      refine lv_aload_n hx hb dL_law_836 rfl (lv_at hl 0 rfl) ?_
                                                      refine lv_iload_n hx hb dL_law_837 rfl (lv_at hl 3 rfl) ?_
                                                      refine lv_iconst (v := (1 : Int32)) hx hb dL_law_838 (by decide) ?_
                                                      refine lv_iadd hx hb dL_law_839 ?_
                                                      obtain ⟨hi_220, hf⟩ := hf
                                                      refine va_sld hx hb hX hbl hbA hS hi_220 dL_law_840 ?_
                                                      refine lv_aload_n hx hb dL_law_841 rfl (lv_at hl 0 rfl) ?_
                                                      refine lv_iload_n hx hb dL_law_842 rfl (lv_at hl 3 rfl) ?_
                                                      refine lv_iconst (v := (2 : Int32)) hx hb dL_law_843 (by decide) ?_
                                                      refine lv_iadd hx hb dL_law_844 ?_
                                                      obtain ⟨hi_221, hf⟩ := hf
                                                      refine va_sld hx hb hX hbl hbA hS hi_221 dL_law_845 ?_
                                                      refine lv_aload_n hx hb dL_law_846 rfl (lv_at hl 0 rfl) ?_
                                                      refine lv_iload_n hx hb dL_law_847 rfl (lv_at hl 3 rfl) ?_
                                                      refine lv_iconst (v := (3 : Int32)) hx hb dL_law_848 (by decide) ?_
                                                      refine lv_iadd hx hb dL_law_849 ?_
                                                      obtain ⟨hi_222, hf⟩ := hf
                                                      refine va_sld hx hb hX hbl hbA hS hi_222 dL_law_850 ?_
                                                      have hPc : va_P D classes (wM cI cZ q9 s9) H := P_suf hP
                                                      refine vp_callSi (W.runV (As := [.int (xs (x3 + (1 : Int32)).toNatClampNeg), .int (xs (x3 + (2 : Int32)).toNatClampNeg), .int (xs (x3 + (3 : Int32)).toNatClampNeg)]) (rest := [.int r_219]) ⟨hx, hb, hml, hown, hts⟩ (c_X7_rests l D cI cZ cW q9 (xs (x3 + (1 : Int32)).toNatClampNeg) (xs (x3 + (2 : Int32)).toNatClampNeg) (xs (x3 + (3 : Int32)).toNatClampNeg) s9 _ hf) ⟨callB_of 3 hts (gT tw_988) rfl rfl rfl (ht _ tw_7) (ht _ tw_985) hd_X7_rests ⟨Nat.le_of_ble_eq_true rfl, Nat.le_of_ble_eq_true rfl⟩, ht _ tw_986, ht _ tw_987⟩ ⟨PR_blind, va_recv hK hPc (ci := 5) (q0 := 0) rfl eM_0, fun U hU hW => PR_mk hPc hK hU hW⟩ rfl rfl hl.1 rfl (lv_room (Nat.le_of_ble_eq_true rfl)) dL_law_851 ⟨Nat.le_of_ble_eq_true rfl, Nat.le_of_ble_eq_true rfl⟩) (fun r_223 hf => ?_)
                                                      refine lv_icmp_eq (tgt := 1074) hx hb dL_law_854 (by decide) (fun c_224 => ?_) (fun c_224 => ?_)
                                                      · have hf := hf.1 c_224
                                                        exact k_1074 x3 Z S a s9 H locs ls hf hP hD hS (lv_sub hl [0, 1, 2, 3] rfl)
                                                      · have hf := hf.2 c_224
                                                        refine lv_iconst (v := (0 : Int32)) hx hb dL_law_857 (by decide) ?_
                                                        exact hf.elim
                                                    · have hf := hf.2 c_215
                                                      by_cases c_225 : ((xs x3.toNatClampNeg) &&& (31 : Int32)) = (23 : Int32)
                                                      · have hf := hf.1 c_225
                                                        refine lv_tableIn (off := 827) (tgt := 859) hx hb dL_law_32 (by rw [c_225]; decide) (by rw [c_225]; decide) (by rw [c_225]; first | done | rfl) (by decide) ?_
                                                        refine lv_aload_n hx hb dL_law_859 rfl (lv_at hl 1 rfl) ?_
                                                        refine lv_aload_n hx hb dL_law_860 rfl (lv_at hl 0 rfl) ?_
                                                        refine lv_iload_n hx hb dL_law_861 rfl (lv_at hl 3 rfl) ?_
                                                        refine lv_iconst (v := (1 : Int32)) hx hb dL_law_862 (by decide) ?_
                                                        refine lv_iadd hx hb dL_law_863 ?_
                                                        obtain ⟨hi_226, hf⟩ := hf
                                                        refine va_sld hx hb hX hbl hbA hS hi_226 dL_law_864 ?_
                                                        refine lv_aload_n hx hb dL_law_865 rfl (lv_at hl 0 rfl) ?_
                                                        refine lv_iload_n hx hb dL_law_866 rfl (lv_at hl 3 rfl) ?_
                                                        refine lv_iconst (v := (2 : Int32)) hx hb dL_law_867 (by decide) ?_
                                                        refine lv_iadd hx hb dL_law_868 ?_
                                                        obtain ⟨hi_227, hf⟩ := hf
                                                        refine va_sld hx hb hX hbl hbA hS hi_227 dL_law_869 ?_
                                                        refine lv_aload_n hx hb dL_law_870 rfl (lv_at hl 0 rfl) ?_
                                                        refine lv_iload_n hx hb dL_law_871 rfl (lv_at hl 3 rfl) ?_
                                                        refine lv_iconst (v := (3 : Int32)) hx hb dL_law_872 (by decide) ?_
                                                        refine lv_iadd hx hb dL_law_873 ?_
                                                        obtain ⟨hi_228, hf⟩ := hf
                                                        refine va_sld hx hb hX hbl hbA hS hi_228 dL_law_874 ?_
                                                        refine lv_aload_n hx hb dL_law_875 rfl (lv_at hl 0 rfl) ?_
                                                        refine lv_iload_n hx hb dL_law_876 rfl (lv_at hl 3 rfl) ?_
                                                        refine lv_iconst (v := (4 : Int32)) hx hb dL_law_877 (by decide) ?_
                                                        refine lv_iadd hx hb dL_law_878 ?_
                                                        obtain ⟨hi_229, hf⟩ := hf
                                                        refine va_sld hx hb hX hbl hbA hS hi_229 dL_law_879 ?_
                                                        refine lv_if_eq (tgt := 887) hx hb dL_law_880 (by decide) (fun c_230 => ?_) (fun c_230 => ?_)
                                                        · have hf := hf.1 c_230
                                                          refine lv_iconst (v := (0 : Int32)) hx hb dL_law_887 (by decide) ?_
                                                          exact k_888 x3 (0 : Int32) (xs (x3 + (3 : Int32)).toNatClampNeg) (xs (x3 + (2 : Int32)).toNatClampNeg) (xs (x3 + (1 : Int32)).toNatClampNeg) Z S a s9 H locs ls hf hP hD hS (lv_sub hl [0, 1, 2, 3] rfl)
                                                        · have hf := hf.2 c_230
                                                          refine lv_iconst (v := (1 : Int32)) hx hb dL_law_883 (by decide) ?_
                                                          refine lv_goto (tgt := 888) hx hb dL_law_884 (by decide) ?_
                                                          exact k_888 x3 (1 : Int32) (xs (x3 + (3 : Int32)).toNatClampNeg) (xs (x3 + (2 : Int32)).toNatClampNeg) (xs (x3 + (1 : Int32)).toNatClampNeg) Z S a s9 H locs ls hf hP hD hS (lv_sub hl [0, 1, 2, 3] rfl)
                                                      · have hf := hf.2 c_225
                                                        by_cases c_231 : ((xs x3.toNatClampNeg) &&& (31 : Int32)) = (24 : Int32)
                                                        · have hf := hf.1 c_231
                                                          refine lv_tableIn (off := 896) (tgt := 928) hx hb dL_law_32 (by rw [c_231]; decide) (by rw [c_231]; decide) (by rw [c_231]; first | done | rfl) (by decide) ?_
                                                          refine lv_aload_n hx hb dL_law_928 rfl (lv_at hl 1 rfl) ?_
                                                          refine lv_aload_n hx hb dL_law_929 rfl (lv_at hl 0 rfl) ?_
                                                          refine lv_iload_n hx hb dL_law_930 rfl (lv_at hl 3 rfl) ?_
                                                          refine lv_iconst (v := (1 : Int32)) hx hb dL_law_931 (by decide) ?_
                                                          refine lv_iadd hx hb dL_law_932 ?_
                                                          obtain ⟨hi_232, hf⟩ := hf
                                                          refine va_sld hx hb hX hbl hbA hS hi_232 dL_law_933 ?_
                                                          refine lv_i2l (v := (xs (x3 + (1 : Int32)).toNatClampNeg).toInt64) hx hb dL_law_934 rfl ?_
                                                          refine lv_bipush (v := (32 : Int32)) hx hb dL_law_935 (by decide) ?_
                                                          refine lv_lshl (v := ((xs (x3 + (1 : Int32)).toNatClampNeg).toInt64 <<< ((32 : Int32).toInt64 &&& 63))) hx hb dL_law_937 rfl ?_
                                                          refine lv_aload_n hx hb dL_law_938 rfl (lv_at hl 0 rfl) ?_
                                                          refine lv_iload_n hx hb dL_law_939 rfl (lv_at hl 3 rfl) ?_
                                                          refine lv_iconst (v := (2 : Int32)) hx hb dL_law_940 (by decide) ?_
                                                          refine lv_iadd hx hb dL_law_941 ?_
                                                          obtain ⟨hi_233, hf⟩ := hf
                                                          refine va_sld hx hb hX hbl hbA hS hi_233 dL_law_942 ?_
                                                          refine lv_i2l (v := (xs (x3 + (2 : Int32)).toNatClampNeg).toInt64) hx hb dL_law_943 rfl ?_
                                                          refine lv_ldc2 (v := (4294967295 : Int64)) hx hb hown (ht _ tw_1026) dL_law_944 ?_
                                                          refine lv_land hx hb dL_law_947 ?_
                                                          refine lv_lor hx hb dL_law_948 ?_
                                                          have hPc : va_P D classes (XW cI cZ cW Z Y (Z 1 0) (Z 2 0) S a) H := P_pre hP
                                                          have hDc : va_D A (XW cI cZ cW Z Y (Z 1 0) (Z 2 0) S a) := D_pre hD
                                                          have hFc := va_freeX hDc hS hA
                                                          refine va_calll (va_runV (As := [.long (((xs (x3 + (1 : Int32)).toNatClampNeg).toInt64 <<< ((32 : Int32).toInt64 &&& 63)) ||| ((xs (x3 + (2 : Int32)).toNatClampNeg).toInt64 &&& (4294967295 : Int64)))]) (rest := []) ⟨hx, hb, hml, hown, hts⟩ (c_X6_seed l D cI cZ cW Z Y H.size (((xs (x3 + (1 : Int32)).toNatClampNeg).toInt64 <<< ((32 : Int32).toInt64 &&& 63)) ||| ((xs (x3 + (2 : Int32)).toNatClampNeg).toInt64 &&& (4294967295 : Int64))) S a _ hf) ⟨callB_of 1 hts (gT tw_625) rfl rfl rfl (ht _ tw_1) (ht _ tw_622) hd_X6_seed ⟨Nat.le_of_ble_eq_true rfl, Nat.le_of_ble_eq_true rfl⟩, ht _ tw_623, ht _ tw_624⟩ ⟨PW_blind, va_recv hK hPc (ci := 4) (q0 := 0) rfl eX_0, fun U hU hW => PW_mk hPc hDc hK hU hW⟩ rfl rfl hl.1 rfl (lv_room (Nat.le_of_ble_eq_true rfl)) dL_law_949 ⟨Nat.le_of_ble_eq_true rfl, Nat.le_of_ble_eq_true rfl⟩) hS (fun q _ h => hFc q h) hFc (fun r_234 u t H1 locs ht1 hvm hf hB hz1 hk1 hS => ?_)
                                                          obtain ⟨S_235, a_236⟩ := u
                                                          dsimp only at hf hB
                                                          rw [ht1] at hB
                                                          have hP := cjP hP hD hk1 hB
                                                          have hD : va_D A ((XW cI cZ cW Z Y (Z 1 0) (Z 2 0) S_235 a_236) ++ wM cI cZ q9 s9) := D_L hD
                                                          generalize H1 = H at hP hS ⊢
                                                          refine W.eq (g2 := F0 m 952 ls [.long r_234]) rfl ?_
                                                          refine lv_aload_n hx hb dL_law_952 rfl (lv_at hl 2 rfl) ?_
                                                          refine lv_aload_n hx hb dL_law_953 rfl (lv_at hl 0 rfl) ?_
                                                          refine lv_iload_n hx hb dL_law_954 rfl (lv_at hl 3 rfl) ?_
                                                          refine lv_iconst (v := (1 : Int32)) hx hb dL_law_955 (by decide) ?_
                                                          refine lv_iadd hx hb dL_law_956 ?_
                                                          obtain ⟨hi_237, hf⟩ := hf
                                                          refine va_sld hx hb hX hbl hbA hS hi_237 dL_law_957 ?_
                                                          refine lv_i2l (v := (xs (x3 + (1 : Int32)).toNatClampNeg).toInt64) hx hb dL_law_958 rfl ?_
                                                          refine lv_bipush (v := (32 : Int32)) hx hb dL_law_959 (by decide) ?_
                                                          refine lv_lshl (v := ((xs (x3 + (1 : Int32)).toNatClampNeg).toInt64 <<< ((32 : Int32).toInt64 &&& 63))) hx hb dL_law_961 rfl ?_
                                                          refine lv_aload_n hx hb dL_law_962 rfl (lv_at hl 0 rfl) ?_
                                                          refine lv_iload_n hx hb dL_law_963 rfl (lv_at hl 3 rfl) ?_
                                                          refine lv_iconst (v := (2 : Int32)) hx hb dL_law_964 (by decide) ?_
                                                          refine lv_iadd hx hb dL_law_965 ?_
                                                          obtain ⟨hi_238, hf⟩ := hf
                                                          refine va_sld hx hb hX hbl hbA hS hi_238 dL_law_966 ?_
                                                          refine lv_i2l (v := (xs (x3 + (2 : Int32)).toNatClampNeg).toInt64) hx hb dL_law_967 rfl ?_
                                                          refine lv_ldc2 (v := (4294967295 : Int64)) hx hb hown (ht _ tw_1026) dL_law_968 ?_
                                                          refine lv_land hx hb dL_law_971 ?_
                                                          refine lv_lor hx hb dL_law_972 ?_
                                                          have hPc : va_P D classes (wM cI cZ q9 s9) H := P_suf hP
                                                          have hDc : va_D A (wM cI cZ q9 s9) := D_suf hD
                                                          have hFc := va_freeX hDc hS hA
                                                          refine va_calll (va_runV (As := [.long (((xs (x3 + (1 : Int32)).toNatClampNeg).toInt64 <<< ((32 : Int32).toInt64 &&& 63)) ||| ((xs (x3 + (2 : Int32)).toNatClampNeg).toInt64 &&& (4294967295 : Int64)))]) (rest := [.long r_234]) ⟨hx, hb, hml, hown, hts⟩ (c_X7_seed l D cI cZ cW q9 H.size (((xs (x3 + (1 : Int32)).toNatClampNeg).toInt64 <<< ((32 : Int32).toInt64 &&& 63)) ||| ((xs (x3 + (2 : Int32)).toNatClampNeg).toInt64 &&& (4294967295 : Int64))) s9 _ hf) ⟨callB_of 1 hts (gT tw_1005) rfl rfl rfl (ht _ tw_7) (ht _ tw_1002) hd_X7_seed ⟨Nat.le_of_ble_eq_true rfl, Nat.le_of_ble_eq_true rfl⟩, ht _ tw_1003, ht _ tw_1004⟩ ⟨PW_blind, va_recv hK hPc (ci := 5) (q0 := 0) rfl eM_0, fun U hU hW => PW_mk hPc hDc hK hU hW⟩ rfl rfl hl.1 rfl (lv_room (Nat.le_of_ble_eq_true rfl)) dL_law_973 ⟨Nat.le_of_ble_eq_true rfl, Nat.le_of_ble_eq_true rfl⟩) hS (fun q _ h => hFc q h) hFc (fun r_239 u t H1 locs ht1 hvm hf hB hz1 hk1 hS => ?_)
                                                          obtain ⟨s9_240, rfl⟩ : ∃ z, z = u := ⟨_, rfl⟩
                                                          rw [ht1] at hB
                                                          have hP := cjT hP hD hk1 hB
                                                          have hD : va_D A ((XW cI cZ cW Z Y (Z 1 0) (Z 2 0) S_235 a_236) ++ wM cI cZ q9 s9_240) := D_L hD
                                                          generalize H1 = H at hP hS ⊢
                                                          refine W.eq (g2 := F0 m 976 ls [.long r_239, .long r_234]) rfl ?_
                                                          refine W.lcmp hx hb dL_law_976 ?_
                                                          refine lv_if_eq (tgt := 1074) hx hb dL_law_977 (by decide) (fun c_241 => ?_) (fun c_241 => ?_)
                                                          · have hf := hf.1 c_241
                                                            exact k_1074 x3 Z S_235 a_236 s9_240 H locs ls hf hP hD hS (lv_sub hl [0, 1, 2, 3] rfl)
                                                          · have hf := hf.2 c_241
                                                            refine lv_iconst (v := (0 : Int32)) hx hb dL_law_980 (by decide) ?_
                                                            exact hf.elim
                                                        · have hf := hf.2 c_231
                                                          by_cases c_242 : ((xs x3.toNatClampNeg) &&& (31 : Int32)) = (25 : Int32)
                                                          · have hf := hf.1 c_242
                                                            refine lv_tableIn (off := 950) (tgt := 982) hx hb dL_law_32 (by rw [c_242]; decide) (by rw [c_242]; decide) (by rw [c_242]; first | done | rfl) (by decide) ?_
                                                            refine lv_aload_n hx hb dL_law_982 rfl (lv_at hl 1 rfl) ?_
                                                            refine lv_aload_n hx hb dL_law_983 rfl (lv_at hl 0 rfl) ?_
                                                            refine lv_iload_n hx hb dL_law_984 rfl (lv_at hl 3 rfl) ?_
                                                            refine lv_iconst (v := (1 : Int32)) hx hb dL_law_985 (by decide) ?_
                                                            refine lv_iadd hx hb dL_law_986 ?_
                                                            obtain ⟨hi_243, hf⟩ := hf
                                                            refine va_sld hx hb hX hbl hbA hS hi_243 dL_law_987 ?_
                                                            have hPc : va_P D classes (XW cI cZ cW Z Y (Z 1 0) (Z 2 0) S a) H := P_pre hP
                                                            have hDc : va_D A (XW cI cZ cW Z Y (Z 1 0) (Z 2 0) S a) := D_pre hD
                                                            have hFc := va_freeX hDc hS hA
                                                            refine va_calli (va_runV (As := [.int (xs (x3 + (1 : Int32)).toNatClampNeg)]) (rest := []) ⟨hx, hb, hml, hown, hts⟩ (c_X6_years l D cI cZ cW Z Y H.size (xs (x3 + (1 : Int32)).toNatClampNeg) S a _ hf) ⟨callB_of 1 hts (gT tw_629) rfl rfl rfl (ht _ tw_1) (ht _ tw_626) hd_X6_years ⟨Nat.le_of_ble_eq_true rfl, Nat.le_of_ble_eq_true rfl⟩, ht _ tw_627, ht _ tw_628⟩ ⟨PW_blind, va_recv hK hPc (ci := 4) (q0 := 0) rfl eX_0, fun U hU hW => PW_mk hPc hDc hK hU hW⟩ rfl rfl hl.1 rfl (lv_room (Nat.le_of_ble_eq_true rfl)) dL_law_988 ⟨Nat.le_of_ble_eq_true rfl, Nat.le_of_ble_eq_true rfl⟩) hS (fun q _ h => hFc q h) hFc (fun r_244 u t H1 locs ht1 hvm hf hB hz1 hk1 hS => ?_)
                                                            obtain ⟨S_245, a_246⟩ := u
                                                            dsimp only at hf hB
                                                            rw [ht1] at hB
                                                            have hP := cjP hP hD hk1 hB
                                                            have hD : va_D A ((XW cI cZ cW Z Y (Z 1 0) (Z 2 0) S_245 a_246) ++ wM cI cZ q9 s9) := D_L hD
                                                            generalize H1 = H at hP hS ⊢
                                                            refine W.eq (g2 := F0 m 991 ls [.int r_244]) rfl ?_
                                                            refine lv_aload_n hx hb dL_law_991 rfl (lv_at hl 2 rfl) ?_
                                                            refine lv_aload_n hx hb dL_law_992 rfl (lv_at hl 0 rfl) ?_
                                                            refine lv_iload_n hx hb dL_law_993 rfl (lv_at hl 3 rfl) ?_
                                                            refine lv_iconst (v := (1 : Int32)) hx hb dL_law_994 (by decide) ?_
                                                            refine lv_iadd hx hb dL_law_995 ?_
                                                            obtain ⟨hi_247, hf⟩ := hf
                                                            refine va_sld hx hb hX hbl hbA hS hi_247 dL_law_996 ?_
                                                            have hPc : va_P D classes (wM cI cZ q9 s9) H := P_suf hP
                                                            have hDc : va_D A (wM cI cZ q9 s9) := D_suf hD
                                                            have hFc := va_freeX hDc hS hA
                                                            refine va_calli (va_runV (As := [.int (xs (x3 + (1 : Int32)).toNatClampNeg)]) (rest := [.int r_244]) ⟨hx, hb, hml, hown, hts⟩ (c_X7_years l D cI cZ cW q9 H.size (xs (x3 + (1 : Int32)).toNatClampNeg) s9 _ hf) ⟨callB_of 1 hts (gT tw_1009) rfl rfl rfl (ht _ tw_7) (ht _ tw_1006) hd_X7_years ⟨Nat.le_of_ble_eq_true rfl, Nat.le_of_ble_eq_true rfl⟩, ht _ tw_1007, ht _ tw_1008⟩ ⟨PW_blind, va_recv hK hPc (ci := 5) (q0 := 0) rfl eM_0, fun U hU hW => PW_mk hPc hDc hK hU hW⟩ rfl rfl hl.1 rfl (lv_room (Nat.le_of_ble_eq_true rfl)) dL_law_997 ⟨Nat.le_of_ble_eq_true rfl, Nat.le_of_ble_eq_true rfl⟩) hS (fun q _ h => hFc q h) hFc (fun r_248 u t H1 locs ht1 hvm hf hB hz1 hk1 hS => ?_)
                                                            obtain ⟨s9_249, rfl⟩ : ∃ z, z = u := ⟨_, rfl⟩
                                                            rw [ht1] at hB
                                                            have hP := cjT hP hD hk1 hB
                                                            have hD : va_D A ((XW cI cZ cW Z Y (Z 1 0) (Z 2 0) S_245 a_246) ++ wM cI cZ q9 s9_249) := D_L hD
                                                            generalize H1 = H at hP hS ⊢
                                                            refine W.eq (g2 := F0 m 1000 ls [.int r_248, .int r_244]) rfl ?_
                                                            refine lv_icmp_eq (tgt := 1074) hx hb dL_law_1000 (by decide) (fun c_250 => ?_) (fun c_250 => ?_)
                                                            · have hf := hf.1 c_250
                                                              exact k_1074 x3 Z S_245 a_246 s9_249 H locs ls hf hP hD hS (lv_sub hl [0, 1, 2, 3] rfl)
                                                            · have hf := hf.2 c_250
                                                              refine lv_iconst (v := (0 : Int32)) hx hb dL_law_1003 (by decide) ?_
                                                              exact hf.elim
                                                          · have hf := hf.2 c_242
                                                            by_cases c_251 : ((xs x3.toNatClampNeg) &&& (31 : Int32)) = (26 : Int32)
                                                            · have hf := hf.1 c_251
                                                              refine lv_tableIn (off := 973) (tgt := 1005) hx hb dL_law_32 (by rw [c_251]; decide) (by rw [c_251]; decide) (by rw [c_251]; first | done | rfl) (by decide) ?_
                                                              refine lv_aload_n hx hb dL_law_1005 rfl (lv_at hl 1 rfl) ?_
                                                              refine lv_aload_n hx hb dL_law_1006 rfl (lv_at hl 0 rfl) ?_
                                                              refine lv_iload_n hx hb dL_law_1007 rfl (lv_at hl 3 rfl) ?_
                                                              refine lv_iconst (v := (1 : Int32)) hx hb dL_law_1008 (by decide) ?_
                                                              refine lv_iadd hx hb dL_law_1009 ?_
                                                              obtain ⟨hi_252, hf⟩ := hf
                                                              refine va_sld hx hb hX hbl hbA hS hi_252 dL_law_1010 ?_
                                                              have hPc : va_P D classes (XW cI cZ cW Z Y (Z 1 0) (Z 2 0) S a) H := P_pre hP
                                                              have hDc : va_D A (XW cI cZ cW Z Y (Z 1 0) (Z 2 0) S a) := D_pre hD
                                                              have hFc := va_freeX hDc hS hA
                                                              refine va_calli (va_runV (As := [.int (xs (x3 + (1 : Int32)).toNatClampNeg)]) (rest := []) ⟨hx, hb, hml, hown, hts⟩ (c_X6_keep l D cI cZ cW Z Y H.size (xs (x3 + (1 : Int32)).toNatClampNeg) S a _ hf) ⟨callB_of 1 hts (gT tw_636) rfl rfl rfl (ht _ tw_1) (ht _ tw_633) hd_X6_keep ⟨Nat.le_of_ble_eq_true rfl, Nat.le_of_ble_eq_true rfl⟩, ht _ tw_634, ht _ tw_635⟩ ⟨PW_blind, va_recv hK hPc (ci := 4) (q0 := 0) rfl eX_0, fun U hU hW => PW_mk hPc hDc hK hU hW⟩ rfl rfl hl.1 rfl (lv_room (Nat.le_of_ble_eq_true rfl)) dL_law_1011 ⟨Nat.le_of_ble_eq_true rfl, Nat.le_of_ble_eq_true rfl⟩) hS (fun q _ h => hFc q h) hFc (fun r_253 u t H1 locs ht1 hvm hf hB hz1 hk1 hS => ?_)
                                                              obtain ⟨S_254, a_255⟩ := u
                                                              dsimp only at hf hB
                                                              rw [ht1] at hB
                                                              have hP := cjP hP hD hk1 hB
                                                              have hD : va_D A ((XW cI cZ cW Z Y (Z 1 0) (Z 2 0) S_254 a_255) ++ wM cI cZ q9 s9) := D_L hD
                                                              generalize H1 = H at hP hS ⊢
                                                              refine W.eq (g2 := F0 m 1014 ls [.int r_253]) rfl ?_
                                                              refine lv_aload_n hx hb dL_law_1014 rfl (lv_at hl 2 rfl) ?_
                                                              refine lv_aload_n hx hb dL_law_1015 rfl (lv_at hl 0 rfl) ?_
                                                              refine lv_iload_n hx hb dL_law_1016 rfl (lv_at hl 3 rfl) ?_
                                                              refine lv_iconst (v := (1 : Int32)) hx hb dL_law_1017 (by decide) ?_
                                                              refine lv_iadd hx hb dL_law_1018 ?_
                                                              obtain ⟨hi_256, hf⟩ := hf
                                                              refine va_sld hx hb hX hbl hbA hS hi_256 dL_law_1019 ?_
                                                              have hPc : va_P D classes (wM cI cZ q9 s9) H := P_suf hP
                                                              have hDc : va_D A (wM cI cZ q9 s9) := D_suf hD
                                                              have hFc := va_freeX hDc hS hA
                                                              refine va_calli (va_runV (As := [.int (xs (x3 + (1 : Int32)).toNatClampNeg)]) (rest := [.int r_253]) ⟨hx, hb, hml, hown, hts⟩ (c_X7_keep l D cI cZ cW q9 H.size (xs (x3 + (1 : Int32)).toNatClampNeg) s9 _ hf) ⟨callB_of 1 hts (gT tw_1017) rfl rfl rfl (ht _ tw_7) (ht _ tw_1014) hd_X7_keep ⟨Nat.le_of_ble_eq_true rfl, Nat.le_of_ble_eq_true rfl⟩, ht _ tw_1015, ht _ tw_1016⟩ ⟨PW_blind, va_recv hK hPc (ci := 5) (q0 := 0) rfl eM_0, fun U hU hW => PW_mk hPc hDc hK hU hW⟩ rfl rfl hl.1 rfl (lv_room (Nat.le_of_ble_eq_true rfl)) dL_law_1020 ⟨Nat.le_of_ble_eq_true rfl, Nat.le_of_ble_eq_true rfl⟩) hS (fun q _ h => hFc q h) hFc (fun r_257 u t H1 locs ht1 hvm hf hB hz1 hk1 hS => ?_)
                                                              obtain ⟨s9_258, rfl⟩ : ∃ z, z = u := ⟨_, rfl⟩
                                                              rw [ht1] at hB
                                                              have hP := cjT hP hD hk1 hB
                                                              have hD : va_D A ((XW cI cZ cW Z Y (Z 1 0) (Z 2 0) S_254 a_255) ++ wM cI cZ q9 s9_258) := D_L hD
                                                              generalize H1 = H at hP hS ⊢
                                                              refine W.eq (g2 := F0 m 1023 ls [.int r_257, .int r_253]) rfl ?_
                                                              refine lv_icmp_eq (tgt := 1074) hx hb dL_law_1023 (by decide) (fun c_259 => ?_) (fun c_259 => ?_)
                                                              · have hf := hf.1 c_259
                                                                exact k_1074 x3 Z S_254 a_255 s9_258 H locs ls hf hP hD hS (lv_sub hl [0, 1, 2, 3] rfl)
                                                              · have hf := hf.2 c_259
                                                                refine lv_iconst (v := (0 : Int32)) hx hb dL_law_1026 (by decide) ?_
                                                                exact hf.elim
                                                            · have hf := hf.2 c_251
                                                              by_cases c_260 : ((xs x3.toNatClampNeg) &&& (31 : Int32)) = (27 : Int32)
                                                              · have hf := hf.1 c_260
                                                                refine lv_tableIn (off := 996) (tgt := 1028) hx hb dL_law_32 (by rw [c_260]; decide) (by rw [c_260]; decide) (by rw [c_260]; first | done | rfl) (by decide) ?_
                                                                refine lv_aload_n hx hb dL_law_1028 rfl (lv_at hl 1 rfl) ?_
                                                                refine lv_aload_n hx hb dL_law_1029 rfl (lv_at hl 0 rfl) ?_
                                                                refine lv_iload_n hx hb dL_law_1030 rfl (lv_at hl 3 rfl) ?_
                                                                refine lv_iconst (v := (1 : Int32)) hx hb dL_law_1031 (by decide) ?_
                                                                refine lv_iadd hx hb dL_law_1032 ?_
                                                                obtain ⟨hi_261, hf⟩ := hf
                                                                refine va_sld hx hb hX hbl hbA hS hi_261 dL_law_1033 ?_
                                                                have hPc : va_P D classes (XW cI cZ cW Z Y (Z 1 0) (Z 2 0) S a) H := P_pre hP
                                                                have hDc : va_D A (XW cI cZ cW Z Y (Z 1 0) (Z 2 0) S a) := D_pre hD
                                                                have hFc := va_freeX hDc hS hA
                                                                refine va_calli (va_runV (As := [.int (xs (x3 + (1 : Int32)).toNatClampNeg)]) (rest := []) ⟨hx, hb, hml, hown, hts⟩ (c_X6_again l D cI cZ cW Z Y H.size (xs (x3 + (1 : Int32)).toNatClampNeg) S a _ hf) ⟨callB_of 1 hts (gT tw_644) rfl rfl rfl (ht _ tw_1) (ht _ tw_641) hd_X6_again ⟨Nat.le_of_ble_eq_true rfl, Nat.le_of_ble_eq_true rfl⟩, ht _ tw_642, ht _ tw_643⟩ ⟨PW_blind, va_recv hK hPc (ci := 4) (q0 := 0) rfl eX_0, fun U hU hW => PW_mk hPc hDc hK hU hW⟩ rfl rfl hl.1 rfl (lv_room (Nat.le_of_ble_eq_true rfl)) dL_law_1034 ⟨Nat.le_of_ble_eq_true rfl, Nat.le_of_ble_eq_true rfl⟩) hS (fun q _ h => hFc q h) hFc (fun r_262 u t H1 locs ht1 hvm hf hB hz1 hk1 hS => ?_)
                                                                obtain ⟨S_263, a_264⟩ := u
                                                                dsimp only at hf hB
                                                                rw [ht1] at hB
                                                                have hP := cjP hP hD hk1 hB
                                                                have hD : va_D A ((XW cI cZ cW Z Y (Z 1 0) (Z 2 0) S_263 a_264) ++ wM cI cZ q9 s9) := D_L hD
                                                                generalize H1 = H at hP hS ⊢
                                                                refine W.eq (g2 := F0 m 1037 ls [.int r_262]) rfl ?_
                                                                refine lv_aload_n hx hb dL_law_1037 rfl (lv_at hl 2 rfl) ?_
                                                                refine lv_aload_n hx hb dL_law_1038 rfl (lv_at hl 0 rfl) ?_
                                                                refine lv_iload_n hx hb dL_law_1039 rfl (lv_at hl 3 rfl) ?_
                                                                refine lv_iconst (v := (1 : Int32)) hx hb dL_law_1040 (by decide) ?_
                                                                refine lv_iadd hx hb dL_law_1041 ?_
                                                                obtain ⟨hi_265, hf⟩ := hf
                                                                refine va_sld hx hb hX hbl hbA hS hi_265 dL_law_1042 ?_
                                                                have hPc : va_P D classes (wM cI cZ q9 s9) H := P_suf hP
                                                                have hDc : va_D A (wM cI cZ q9 s9) := D_suf hD
                                                                have hFc := va_freeX hDc hS hA
                                                                refine va_calli (va_runV (As := [.int (xs (x3 + (1 : Int32)).toNatClampNeg)]) (rest := [.int r_262]) ⟨hx, hb, hml, hown, hts⟩ (c_X7_again l D cI cZ cW q9 H.size (xs (x3 + (1 : Int32)).toNatClampNeg) s9 _ hf) ⟨callB_of 1 hts (gT tw_1021) rfl rfl rfl (ht _ tw_7) (ht _ tw_1018) hd_X7_again ⟨Nat.le_of_ble_eq_true rfl, Nat.le_of_ble_eq_true rfl⟩, ht _ tw_1019, ht _ tw_1020⟩ ⟨PW_blind, va_recv hK hPc (ci := 5) (q0 := 0) rfl eM_0, fun U hU hW => PW_mk hPc hDc hK hU hW⟩ rfl rfl hl.1 rfl (lv_room (Nat.le_of_ble_eq_true rfl)) dL_law_1043 ⟨Nat.le_of_ble_eq_true rfl, Nat.le_of_ble_eq_true rfl⟩) hS (fun q _ h => hFc q h) hFc (fun r_266 u t H1 locs ht1 hvm hf hB hz1 hk1 hS => ?_)
                                                                obtain ⟨s9_267, rfl⟩ : ∃ z, z = u := ⟨_, rfl⟩
                                                                rw [ht1] at hB
                                                                have hP := cjT hP hD hk1 hB
                                                                have hD : va_D A ((XW cI cZ cW Z Y (Z 1 0) (Z 2 0) S_263 a_264) ++ wM cI cZ q9 s9_267) := D_L hD
                                                                generalize H1 = H at hP hS ⊢
                                                                refine W.eq (g2 := F0 m 1046 ls [.int r_266, .int r_262]) rfl ?_
                                                                refine lv_icmp_eq (tgt := 1074) hx hb dL_law_1046 (by decide) (fun c_268 => ?_) (fun c_268 => ?_)
                                                                · have hf := hf.1 c_268
                                                                  exact k_1074 x3 Z S_263 a_264 s9_267 H locs ls hf hP hD hS (lv_sub hl [0, 1, 2, 3] rfl)
                                                                · have hf := hf.2 c_268
                                                                  refine lv_iconst (v := (0 : Int32)) hx hb dL_law_1049 (by decide) ?_
                                                                  exact hf.elim
                                                              · have hf := hf.2 c_260
                                                                by_cases c_269 : ((xs x3.toNatClampNeg) &&& (31 : Int32)) = (28 : Int32)
                                                                · have hf := hf.1 c_269
                                                                  refine lv_tableIn (off := 1019) (tgt := 1051) hx hb dL_law_32 (by rw [c_269]; decide) (by rw [c_269]; decide) (by rw [c_269]; first | done | rfl) (by decide) ?_
                                                                  refine lv_aload_n hx hb dL_law_1051 rfl (lv_at hl 1 rfl) ?_
                                                                  refine lv_aload_n hx hb dL_law_1052 rfl (lv_at hl 0 rfl) ?_
                                                                  refine lv_iload_n hx hb dL_law_1053 rfl (lv_at hl 3 rfl) ?_
                                                                  refine lv_iconst (v := (1 : Int32)) hx hb dL_law_1054 (by decide) ?_
                                                                  refine lv_iadd hx hb dL_law_1055 ?_
                                                                  obtain ⟨hi_270, hf⟩ := hf
                                                                  refine va_sld hx hb hX hbl hbA hS hi_270 dL_law_1056 ?_
                                                                  have hPc : va_P D classes (XW cI cZ cW Z Y (Z 1 0) (Z 2 0) S a) H := P_pre hP
                                                                  refine vp_callSi (W.runV (As := [.int (xs (x3 + (1 : Int32)).toNatClampNeg)]) (rest := []) ⟨hx, hb, hml, hown, hts⟩ (c_X6_count l D cI cZ cW Z Y (xs (x3 + (1 : Int32)).toNatClampNeg) S a _ hf) ⟨callB_of 1 hts (gT tw_648) rfl rfl rfl (ht _ tw_1) (ht _ tw_645) hd_X6_count ⟨Nat.le_of_ble_eq_true rfl, Nat.le_of_ble_eq_true rfl⟩, ht _ tw_646, ht _ tw_647⟩ ⟨PR_blind, va_recv hK hPc (ci := 4) (q0 := 0) rfl eX_0, fun U hU hW => PR_mk hPc hK hU hW⟩ rfl rfl hl.1 rfl (lv_room (Nat.le_of_ble_eq_true rfl)) dL_law_1057 ⟨Nat.le_of_ble_eq_true rfl, Nat.le_of_ble_eq_true rfl⟩) (fun r_271 hf => ?_)
                                                                  refine lv_aload_n hx hb dL_law_1060 rfl (lv_at hl 2 rfl) ?_
                                                                  refine lv_aload_n hx hb dL_law_1061 rfl (lv_at hl 0 rfl) ?_
                                                                  refine lv_iload_n hx hb dL_law_1062 rfl (lv_at hl 3 rfl) ?_
                                                                  refine lv_iconst (v := (1 : Int32)) hx hb dL_law_1063 (by decide) ?_
                                                                  refine lv_iadd hx hb dL_law_1064 ?_
                                                                  obtain ⟨hi_272, hf⟩ := hf
                                                                  refine va_sld hx hb hX hbl hbA hS hi_272 dL_law_1065 ?_
                                                                  have hPc : va_P D classes (wM cI cZ q9 s9) H := P_suf hP
                                                                  refine vp_callSi (W.runV (As := [.int (xs (x3 + (1 : Int32)).toNatClampNeg)]) (rest := [.int r_271]) ⟨hx, hb, hml, hown, hts⟩ (c_X7_count l D cI cZ cW q9 (xs (x3 + (1 : Int32)).toNatClampNeg) s9 _ hf) ⟨callB_of 1 hts (gT tw_1025) rfl rfl rfl (ht _ tw_7) (ht _ tw_1022) hd_X7_count ⟨Nat.le_of_ble_eq_true rfl, Nat.le_of_ble_eq_true rfl⟩, ht _ tw_1023, ht _ tw_1024⟩ ⟨PR_blind, va_recv hK hPc (ci := 5) (q0 := 0) rfl eM_0, fun U hU hW => PR_mk hPc hK hU hW⟩ rfl rfl hl.1 rfl (lv_room (Nat.le_of_ble_eq_true rfl)) dL_law_1066 ⟨Nat.le_of_ble_eq_true rfl, Nat.le_of_ble_eq_true rfl⟩) (fun r_273 hf => ?_)
                                                                  refine lv_icmp_eq (tgt := 1074) hx hb dL_law_1069 (by decide) (fun c_274 => ?_) (fun c_274 => ?_)
                                                                  · have hf := hf.1 c_274
                                                                    exact k_1074 x3 Z S a s9 H locs ls hf hP hD hS (lv_sub hl [0, 1, 2, 3] rfl)
                                                                  · have hf := hf.2 c_274
                                                                    refine lv_iconst (v := (0 : Int32)) hx hb dL_law_1072 (by decide) ?_
                                                                    exact hf.elim
                                                                · have hf := hf.2 c_269
                                                                  refine lv_tableOut (tgt := 1074) hx hb dL_law_32 (by have h0 := lv_neT (a := 0) c_18 (by decide); have h1 := lv_neT (a := 1) c_27 (by decide); have h2 := lv_neT (a := 2) c_34 (by decide); have h3 := lv_neT (a := 3) c_41 (by decide); have h4 := lv_neT (a := 4) c_50 (by decide); have h5 := lv_neT (a := 5) c_58 (by decide); have h6 := lv_neT (a := 6) c_66 (by decide); have h7 := lv_neT (a := 7) c_74 (by decide); have h8 := lv_neT (a := 8) c_81 (by decide); have h9 := lv_neT (a := 9) c_92 (by decide); have h10 := lv_neT (a := 10) c_103 (by decide); have h11 := lv_neT (a := 11) c_114 (by decide); have h12 := lv_neT (a := 12) c_121 (by decide); have h13 := lv_neT (a := 13) c_129 (by decide); have h14 := lv_neT (a := 14) c_138 (by decide); have h15 := lv_neT (a := 15) c_149 (by decide); have h16 := lv_neT (a := 16) c_160 (by decide); have h17 := lv_neT (a := 17) c_170 (by decide); have h18 := lv_neT (a := 18) c_183 (by decide); have h19 := lv_neT (a := 19) c_196 (by decide); have h20 := lv_neT (a := 20) c_203 (by decide); have h21 := lv_neT (a := 21) c_211 (by decide); have h22 := lv_neT (a := 22) c_215 (by decide); have h23 := lv_neT (a := 23) c_225 (by decide); have h24 := lv_neT (a := 24) c_231 (by decide); have h25 := lv_neT (a := 25) c_242 (by decide); have h26 := lv_neT (a := 26) c_251 (by decide); have h27 := lv_neT (a := 27) c_260 (by decide); have h28 := lv_neT (a := 28) c_269 (by decide); omega) (by decide) ?_
                                                                  exact k_1074 x3 Z S a s9 H locs ls hf hP hD hS (lv_sub hl [0, 1, 2, 3] rfl)
    exact main_18 n0_18 x3 Z S a s9 H locs ls hI0_18 hP hD hS hl
  have start : ∀ (H : Heap) (locs : List Loc), va_P D classes ((XW cI cZ cW Z Y (Z 1 0) (Z 2 0) S a) ++ wM cI cZ q9 s9) H → va_D A ((XW cI cZ cW Z Y (Z 1 0) (Z 2 0) S a) ++ wM cI cZ q9 s9) → va_S A s.heap H locs → W p l e room_1 s m #[Value.ref b] below meth c H locs 133 1443 (lw_Z below #[Value.ref b] s) (F0 m 16 ls []) := by
    intro H locs hP hD hS
    refine lv_iconst (v := (0 : Int32)) hx hb dL_law_16 (by decide) ?_
    refine lv_istore_n (lv' := [(3, .int (0 : Int32)), (2, .ref (q9 0)), (1, .ref (Z 0 0)), (0, .ref b)]) hx hb dL_law_17 rfl hl (by decide) rfl (fun ls hl => ?_)
    exact k_18 (0 : Int32) Z S a s9 H locs ls hf hP hD hS (lv_sub hl [3, 2, 1, 0] rfl)
  exact start H locs hP hD hS
