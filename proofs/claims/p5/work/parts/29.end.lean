theorem pure_law {L : Nat} {xs : Nat → Int32} {Y Z : Nat → Nat → Nat} {fF : FA} (hL : L ≤ 2560) : wp_L_law L xs Y fF Z S0 (a0 Y) m0 () := by
  unfold wp_L_law B_L_law_18
  refine LOOP_m (fun z => (∃ n : Nat, z.1.toInt = (n : Int) ∧ n ≤ 2560) ∧ Aok Y z.2.2.2.1 ∧ Mk z.2.2.2.2 ∧ Eq4 z.2.2.1 z.2.2.2.2) (fun z => (2560 - z.1.toInt).toNat) _ ⟨⟨0, rfl, by omega⟩, Aok_0 Y, Mk_m0, ⟨rfl, rfl, rfl⟩, rfl⟩ ?_
  rintro ⟨x3, Z2, S2, a2, m2⟩ G ⟨⟨n, hn, hn2⟩, hA, hM, hE⟩ hG
  change LB_L_law_18 G L xs Y fF x3 Z2 S2 a2 m2 ()
  dsimp only at hn hA hM hE
  have eL : ((Int32.ofNat L) - (5 : Int32)).toInt = (L : Int) - 5 := by
    rw [Int32.toInt_sub, Int32.toInt_ofNat_of_lt (by omega), show (5 : Int32).toInt = 5 from rfl, Int.bmod_eq_of_le (by omega) (by omega)]
  unfold LB_L_law_18
  refine ⟨fun _ => trivial, fun c => ?_⟩
  have c1 : n + 5 ≤ L := by
    rw [Int32.lt_iff_toInt_lt, eL] at c
    omega
  clear c eL
  have nx : ∀ (Z3 : Nat → Nat → Nat) (S3 : Nat → CS) (a3 : AS) (m3 : CS), Aok Y a3 → Mk m3 → Eq4 S3 m3 → B_L_law_1073 G L xs Y fF x3 Z3 S3 a3 m3 () := by
    intro Z3 S3 a3 m3 g1 g2 g3
    unfold B_L_law_1073
    intro y e
    have ey := ti_add2 hn (show (5 : Int32).toInt = ((5 : Nat) : Int) from rfl) (by omega)
    rw [← e] at ey
    refine hG _ ⟨⟨n + 5, ey, by omega⟩, g1, g2, g3⟩ ?_
    show (2560 - y.toInt).toNat < (2560 - x3.toInt).toNat
    omega
  have v0 : vp_in x3 L := ti_in hn (by omega)
  have v1 : vp_in (x3 + (1 : Int32)) L := ti_in (ti_add2 hn (show (1 : Int32).toInt = ((1 : Nat) : Int) from rfl) (by omega)) (by omega)
  have v2 : vp_in (x3 + (2 : Int32)) L := ti_in (ti_add2 hn (show (2 : Int32).toInt = ((2 : Nat) : Int) from rfl) (by omega)) (by omega)
  have v3 : vp_in (x3 + (3 : Int32)) L := ti_in (ti_add2 hn (show (3 : Int32).toInt = ((3 : Nat) : Int) from rfl) (by omega)) (by omega)
  have v4 : vp_in (x3 + (4 : Int32)) L := ti_in (ti_add2 hn (show (4 : Int32).toInt = ((4 : Nat) : Int) from rfl) (by omega)) (by omega)
  have hl : 0 ≤ ((S2 0).1 1).toInt ∧ ((S2 0).1 1).toInt ≤ 48 := by
    rw [hE.1.1]
    exact hM.2.2.2.2.2.1
  have ht : 0 ≤ ((S2 6).1 3).toInt ∧ ((S2 6).1 3).toInt ≤ 6 := by
    rw [hE.1.2.1]
    exact hM.2.2.2.2.2.2.2.2.1
  obtain ⟨N, hN⟩ := nat_of hl.1
  have hN48 : N ≤ 48 := by have := hl.2; omega
  have hN2 : (m2.1 14).toInt = (N : Int) := by rw [← hE.1.1]; exact hN
  refine ⟨v0, ?_⟩
  refine ⟨fun _ => ?_, fun _ => ?_⟩
  · -- case 0, write
    exact ⟨v1, g_write hl (fun S1 e1 e2 e3 e4 => ⟨v1, s_write hM (fun m1 hM1 f1 f2 f3 f4 => nx _ _ _ _ hA hM1 ⟨⟨by rw [e1, f1, hE.1.1], e2.trans (hE.1.2.1.trans f2.symm), e3.trans (hE.1.2.2.trans f3.symm)⟩, by rw [e4, f4, hE.1.1, hE.2]⟩)⟩)⟩
  refine ⟨fun _ => ?_, fun _ => ?_⟩
  · -- case 1, wipe
    unfold wp_X6_wipe
    intro _ e1 S1 e2
    subst e1; subst e2
    exact s_wipe hM (fun m1 hM1 f1 f2 f3 f4 => nx _ _ _ _ hA hM1 ⟨⟨f1.symm, hE.1.2.1.trans f2.symm, hE.1.2.2.trans f3.symm⟩, hE.2.trans f4.symm⟩)
  refine ⟨fun _ => ?_, fun _ => ?_⟩
  · -- case 2, fault
    exact sfx_X6_fault hA (fun _ S1 a1 hA1 hX => s_fault hM (fun _ m1 hM1 hF => nx _ _ _ _ hA1 hM1 (Eq4_f hE hX hF)))
  refine ⟨fun _ => ?_, fun _ => ?_⟩
  · -- case 3, dairy
    exact g_dairy4 hN hN48 rfl hA (fun Z1 S1 a1 hZ hA1 hX => ⟨hZ, q_dairy hM hN2 rfl (fun m1 hM1 hF => ⟨fun _ => nx _ _ _ _ hA1 hM1 (Eq4_f hE hX hF), fun c => c (by rw [hE.2])⟩)⟩)
  refine ⟨fun _ => ?_, fun _ => ?_⟩
  · -- case 4, owner
    exact ⟨v1, v2, sfx_X6_owner (fun _ => ⟨v1, v2, s_owner hM (fun _ => nx _ _ _ _ hA hM hE)⟩)⟩
  refine ⟨fun _ => ?_, fun _ => ?_⟩
  · -- case 5, hole
    exact ⟨v1, v2, sfx_X6_hole (fun _ => ⟨v1, v2, s_hole hM (fun _ => nx _ _ _ _ hA hM hE)⟩)⟩
  refine ⟨fun _ => ?_, fun _ => ?_⟩
  · -- case 6, cell
    exact ⟨v1, v2, sfx_X6_cell (fun _ => ⟨v1, v2, s_cell hM (fun _ => nx _ _ _ _ hA hM hE)⟩)⟩
  refine ⟨fun _ => ?_, fun _ => ?_⟩
  · -- case 7, day
    exact sfx_X6_day hA (fun _ S1 a1 hA1 hX => s_day hM (fun _ m1 hM1 hF => nx _ _ _ _ hA1 hM1 (Eq4_f hE hX hF)))
  refine ⟨fun _ => ?_, fun _ => ?_⟩
  · -- case 8, eat
    exact ⟨v1, v2, sfx_X6_eat hA (fun _ S1 a1 hA1 hX => ⟨v1, v2, s_eat hM (fun _ m1 hM1 hF => nx _ _ _ _ hA1 hM1 (Eq4_f hE hX hF))⟩)⟩
  refine ⟨fun _ => ?_, fun _ => ?_⟩
  · -- case 9, let
    exact ⟨v1, v2, sfx_X6_let hA (fun _ S1 a1 hA1 hX => ⟨v1, v2, s_let hM (fun _ m1 hM1 hF => nx _ _ _ _ hA1 hM1 (Eq4_f hE hX hF))⟩)⟩
  refine ⟨fun _ => ?_, fun _ => ?_⟩
  · -- case 10, sell
    exact ⟨v1, v2, sfx_X6_sell hA (fun _ S1 a1 hA1 hX => ⟨v1, v2, s_sell hM (fun _ m1 hM1 hF => nx _ _ _ _ hA1 hM1 (Eq4_f hE hX hF))⟩)⟩
  refine ⟨fun _ => ?_, fun _ => ?_⟩
  · -- case 11, undo
    exact sfx_X6_undo hA (fun _ S1 a1 hA1 hX => s_undo hM (fun _ m1 hM1 hF => nx _ _ _ _ hA1 hM1 (Eq4_f hE hX hF)))
  refine ⟨fun _ => ?_, fun _ => ?_⟩
  · -- case 12, way
    exact ⟨v1, v2, sfx_X6_way (fun _ => ⟨v1, v2, s_way (fun _ => nx _ _ _ _ hA hM hE)⟩)⟩
  refine ⟨fun _ => ?_, fun _ => ?_⟩
  · -- case 13, gnaw
    exact ⟨v1, v2, sfx_X6_gnaw (fun _ => ⟨v1, v2, s_gnaw hM (fun _ m1 hM1 hF => nx _ _ _ _ hA hM1 (Eq4_m hE hF))⟩)⟩
  refine ⟨fun _ => ?_, fun _ => ?_⟩
  · -- case 14, wedding
    exact ⟨v1, v2, sfx_X6_wedding hA (fun _ S1 a1 hA1 hX => ⟨v1, v2, s_wedding hM (fun _ m1 hM1 hF => nx _ _ _ _ hA1 hM1 (Eq4_f hE hX hF))⟩)⟩
  refine ⟨fun _ => ?_, fun _ => ?_⟩
  · -- case 15, ahead
    exact ⟨v1, v2, sfx_X6_ahead hA (fun _ S1 a1 hA1 hX => ⟨v1, v2, s_ahead hM (fun _ m1 hM1 hF => nx _ _ _ _ hA1 hM1 (Eq4_f hE hX hF))⟩)⟩
  refine ⟨fun _ => ?_, fun _ => ?_⟩
  · -- case 16, cut
    exact ⟨v1, v2, v3, sfx_X6_cut (fun _ => ⟨v1, v2, v3, s_cut hM (fun _ => nx _ _ _ _ hA hM hE)⟩)⟩
  refine ⟨fun _ => ?_, fun _ => ?_⟩
  · -- case 17, judge
    exact ⟨v1, v2, v3, sfx_X6_judge hA (fun _ S1 a1 hA1 hX => ⟨v1, v2, v3, s_judge hM (fun _ m1 hM1 hF => nx _ _ _ _ hA1 hM1 (Eq4_f hE hX hF))⟩)⟩
  refine ⟨fun _ => ?_, fun _ => ?_⟩
  · -- case 18, taste
    exact ⟨v1, v2, v3, g_taste ht (fun S1 e1 e2 e3 e4 => ⟨v1, v2, v3, s_taste hM (fun m1 hM1 f1 f2 f3 f4 => nx _ _ _ _ hA hM1 ⟨⟨e1.trans (hE.1.1.trans f1.symm), by rw [e2, f2, hE.1.2.1], e3.trans (hE.1.2.2.trans f3.symm)⟩, e4.trans (hE.2.trans f4.symm)⟩)⟩)⟩
  refine ⟨fun _ => ?_, fun _ => ?_⟩
  · -- case 19, rinse
    unfold wp_X6_rinse
    intro _ e1 S1 e2
    subst e1; subst e2
    exact s_rinse hM (fun m1 hM1 f1 f2 f3 f4 => nx _ _ _ _ hA hM1 ⟨⟨hE.1.1.trans f1.symm, f2.symm, hE.1.2.2.trans f3.symm⟩, hE.2.trans f4.symm⟩)
  refine ⟨fun _ => ?_, fun _ => ?_⟩
  · -- case 20, began
    exact ⟨v1, sfx_X6_began hA (fun _ S1 a1 hA1 hX => ⟨v1, s_began hM (fun _ => nx _ _ _ _ hA1 hM (Eq4_f hE hX (Fr_r _)))⟩)⟩
  refine ⟨fun _ => ?_, fun _ => ?_⟩
  · -- case 21, share
    have g : ∀ t u, B_L_law_786 G L xs Y fF x3 t u Z2 S2 a2 m2 () := by
      intro t u
      unfold B_L_law_786 B_L_law_809
      exact g_share (fun _ => ⟨v1, v2, fun _ => s_share hM (fun _ => nx _ _ _ _ hA hM hE), fun _ => s_share hM (fun _ => nx _ _ _ _ hA hM hE)⟩)
    exact ⟨v1, v2, fun _ => g _ _, fun _ => g _ _⟩
  refine ⟨fun _ => ?_, fun _ => ?_⟩
  · -- case 22, rests
    exact ⟨v1, v2, v3, sfx_X6_rests (fun _ => ⟨v1, v2, v3, s_rests hM (fun _ => nx _ _ _ _ hA hM hE)⟩)⟩
  refine ⟨fun _ => ?_, fun _ => ?_⟩
  · -- case 23, passes
    have g : ∀ t u w q, B_L_law_888 G L xs Y fF x3 t u w q Z2 S2 a2 m2 () := by
      intro t u w q
      unfold B_L_law_888 B_L_law_921
      exact sfx_X6_passes (fun _ => ⟨v1, v2, v3, v4, fun _ => s_passes hM (fun _ => nx _ _ _ _ hA hM hE), fun _ => s_passes hM (fun _ => nx _ _ _ _ hA hM hE)⟩)
    exact ⟨v1, v2, v3, v4, fun _ => g _ _ _ _, fun _ => g _ _ _ _⟩
  refine ⟨fun _ => ?_, fun _ => ?_⟩
  · -- case 24, seed
    refine ⟨v1, v2, ?_⟩
    unfold wp_X6_seed
    intro _ e1 S1 e2
    subst e1; subst e2
    exact ⟨v1, v2, s_seed hM (fun m1 hM1 f1 f2 f3 f4 => nx _ _ _ _ hA hM1 ⟨⟨hE.1.1.trans f1.symm, hE.1.2.1.trans f2.symm, f3.symm⟩, hE.2.trans f4.symm⟩)⟩
  refine ⟨fun _ => ?_, fun _ => ?_⟩
  · -- case 25, years
    exact ⟨v1, g_years (fun _ S1 e1 e2 e3 e4 => ⟨v1, s_years hM (fun _ m1 hM1 f1 f2 f3 f4 => nx _ _ _ _ hA hM1 ⟨⟨e1.trans (hE.1.1.trans f1.symm), e2.trans (hE.1.2.1.trans f2.symm), by rw [e3, f3, hE.1.2.2]⟩, e4.trans (hE.2.trans f4.symm)⟩)⟩)⟩
  refine ⟨fun _ => ?_, fun _ => ?_⟩
  · -- case 26, keep
    exact ⟨v1, sfx_X6_keep hA (fun _ S1 a1 hA1 hX => ⟨v1, s_keep hM (fun _ m1 hM1 hF => nx _ _ _ _ hA1 hM1 (Eq4_f hE hX hF))⟩)⟩
  refine ⟨fun _ => ?_, fun _ => ?_⟩
  · -- case 27, again
    exact ⟨v1, sfx_X6_again hA (fun _ S1 a1 hA1 hX => ⟨v1, s_again hM (fun _ m1 hM1 hF => nx _ _ _ _ hA1 hM1 (Eq4_f hE hX hF))⟩)⟩
  refine ⟨fun _ => ?_, fun _ => ?_⟩
  · -- case 28, count
    exact ⟨v1, sfx_X6_count (fun _ => ⟨v1, s_count hM (fun _ => nx _ _ _ _ hA hM hE)⟩)⟩
  exact nx _ _ _ _ hA hM hE
set_option maxHeartbeats 8000000 in
set_option maxRecDepth 100000 in
theorem whole_start {p : Program} {e : Env} {s : State} {m : MethodId} {below : List Frame} {meth : Method} {c : Code} (l : Launch) {b L : Nat} {xs : Nat → Int32} (hL : L ≤ 2560) (C0 : lw_At p s m meth c b L xs) : W p l e room_1 s m #[Value.ref b] below meth c s.heap [] 0 0 (lw_Z below #[Value.ref b] s) (entryFrame m ([Value.ref b] : List Value).toArray 4) := by
  obtain ⟨hx, hb, hr, hml, hown, hts, hX, hbl, hlocks, hgv⟩ := id C0
  have ht : ∀ w ∈ lw_g, w.before _ s = true := fun w h => hts w (List.mem_filter.mp h).1
  obtain ⟨c0, iS0, hKn0⟩ := u_known (C := RX0) (T := TX0) (N := 2) (n := 2) ht inX0 (ht _ tw_116)
  obtain ⟨c1, iS1, hKn1⟩ := u_known (C := RX1) (T := TX1) (N := 14) (n := 14) ht inX1 (ht _ tw_22)
  obtain ⟨c2, iS2, hKn2⟩ := u_known (C := RX4) (T := TX4) (N := 4) (n := 4) ht inX4 (ht _ tw_133)
  obtain ⟨c3, iS3, hKn3⟩ := u_known (C := RX5) (T := TX5) (N := 6) (n := 6) ht inX5 (ht _ tw_85)
  obtain ⟨c4, iS4, hKn4⟩ := u_known (C := RX6) (T := TX6) (N := 12) (n := 12) ht inX6 (ht _ tw_14)
  obtain ⟨c5, iS5, hKn5⟩ := u_known (C := RX7) (T := TX7) (N := 28) (n := 28) ht inX7 (ht _ tw_650)
  obtain ⟨dC, dI, hKc⟩ : ∃ (dC : Nat → ClassId) (dI : Nat → Nat → Nat), ∀ (k : Nat) (q : vw_C), classes[k]? = some q → u_Kn s q.1 q.2.1 q.2.2 (dC k) (dI k) := by
    refine ⟨fun k => if k = 0 then c0 else if k = 1 then c1 else if k = 2 then c2 else if k = 3 then c3 else if k = 4 then c4 else c5, fun k => if k = 0 then iS0 else if k = 1 then iS1 else if k = 2 then iS2 else if k = 3 then iS3 else if k = 4 then iS4 else iS5, ?_⟩
    intro k q hq
    match k, hq with
    | 0, hq => cases hq; exact hKn0
    | 1, hq => cases hq; exact hKn1
    | 2, hq => cases hq; exact hKn2
    | 3, hq => cases hq; exact hKn3
    | 4, hq => cases hq; exact hKn4
    | 5, hq => cases hq; exact hKn5
    | k + 6, hq => simp [classes] at hq
  obtain ⟨cI, kI, pI, fI, gI, hI⟩ := Cond.arrayClass_spec (ht _ tw_83)
  obtain ⟨cZ, kZ, pZ, fZ, gZ, hZ⟩ := Cond.arrayClass_spec (ht _ tw_152)
  have hover : va_AO "LetHoles$Wheel" s := va_AO.of (hts _ tw_122)
  have hnest : va_Nw (.methodLinkNest RX6 56 yX4_init "LetHoles") s := va_Nw.of rfl (hts _ tw_134)
  obtain ⟨pW, cW, kW, f1W, f2W, f3W, f4W, f5W⟩ := Cond.arrayOver_spec hover
  have hK : va_K (dC, dI) classes (tyl cI cZ cW) s := by
    refine ⟨hKc, fun k q hk => ?_⟩
    match k, hk with
    | 0, hk => cases hk; exact ⟨fun n z => ⟨fun k h => (by cases h), kI, gI, pI, hI⟩, fI⟩
    | 1, hk => cases hk; exact ⟨fun n z => ⟨fun k h => (by cases h), kZ, gZ, pZ, hZ⟩, fZ⟩
    | 2, hk => cases hk; exact ⟨fun n z => ⟨fun k h => (by cases h), kW, f3W, pW, f4W⟩, kW, pW, f3W, f4W, f1W, f5W⟩
    | k + 3, hk => simp [tyl] at hk
  obtain ⟨A, hAe⟩ : ∃ A : Nat → Prop, A = fun q => s.heap.size ≤ q := ⟨_, rfl⟩
  have hA : ∀ q : Nat, s.heap.size ≤ q → A q := fun q h => by rw [hAe]; exact h
  have hS : va_S A s.heap s.heap [] := va_S.rf
  have hP : va_P (dC, dI) classes [] s.heap := fun k q h => by simp at h
  have hD : va_D A [] := ⟨fun i j p q h => by simp at h, fun k q h => by simp at h⟩
  have hl := lv_entry ([.ref b]) (n := 4) (Nat.le_of_ble_eq_true rfl)
  rw [lg_entry_eq]
  generalize (lg_sl ([.ref b]) ++ List.replicate (4 - (lg_sl ([.ref b])).length) Slot.unset).toArray = ls at hl ⊢
  have hl : lv_has ls 4 [(0, .ref b)] := hl
  refine va_new (ci := 4) (fs := [.null, .int 0, .null, .null, .null, .null, .null, .null, .null, .int 0, .null, .long 0]) (C := RX6) (T := TX6) (N := 12) hx hb ht inX6 tyX6 tyX6_ok hown (ht _ tw_13) (ht _ tw_14) (ht _ tw_1) hK hP hD hS hA rfl (fun j hj => by rcases (show j = 0 ∨ j = 1 ∨ j = 2 ∨ j = 3 ∨ j = 4 ∨ j = 5 ∨ j = 6 ∨ j = 7 ∨ j = 8 ∨ j = 9 ∨ j = 10 ∨ j = 11 by omega) with rfl | rfl | rfl | rfl | rfl | rfl | rfl | rfl | rfl | rfl | rfl | rfl <;> rfl) (Nat.le_of_ble_eq_true rfl) (Nat.le_of_ble_eq_true rfl) dL_law_0 (fun qx H hP hD hS => ?_)
  have hP : va_P (dC, dI) classes ([] ++ [(qx, .inr (4, [.null, .int 0, .null, .null, .null, .null, .null, .null, .null, .int 0, .null, .long 0]))]) H := hP
  have hD : va_D A ([] ++ [(qx, .inr (4, [.null, .int 0, .null, .null, .null, .null, .null, .null, .null, .int 0, .null, .long 0]))]) := hD
  refine W.widen (k := 1) (n := 12) (by omega) (by omega) ?_
  refine lv_dup hx hb dL_law_3 rfl ?_
  have hPc := P_suf hP
  have hDc := D_suf hD
  have hFc := va_freeX hDc hS hA
  refine va_callv (va_runI (As := []) (rest := [.ref qx]) ⟨hx, hb, hml, hown, hts⟩ (c_X6_init l (dC, dI) cI cZ cW H.size qx) ⟨callB_of 0 hts (gT tw_17) rfl rfl rfl (ht _ tw_1) (ht _ tw_15) hd_X6_init ⟨Nat.le_of_ble_eq_true rfl, Nat.le_of_ble_eq_true rfl⟩, rfl, ht _ tw_16⟩ ⟨PWN_blind, fun U hU hW => PWN_mk hPc hDc hK hover hnest hU hW⟩ rfl rfl hl.1 rfl (lv_room (Nat.le_of_ble_eq_true rfl)) dL_law_4 ⟨Nat.le_of_ble_eq_true rfl, Nat.le_of_ble_eq_true rfl⟩) hS (fun q _ h => hFc q h) hFc (fun u t H1 locs ht1 hvm hf hB hz1 hk1 hS => ?_)
  obtain ⟨Z, Y⟩ := u
  dsimp only at hf hB
  obtain ⟨hB, hDB⟩ := hB
  rw [ht1] at hB
  have hDn : va_D A (XW cI cZ cW Z Y (Z 1 0) (Z 2 0) S0 (a0 Y)) := hDB.weaken (fun k q _ h => hFc q.1 h)
  subst hf
  clear hP hD hPc hDc hFc
  generalize H1 = H at hB hS ⊢
  have hP := hB
  have hD := hDn
  refine W.widen (k := 117) (n := 661) (by omega) (by omega) ?_
  refine lv_astore_n (lv' := [(1, .ref (Z 0 0)), (0, .ref b)]) hx hb dL_law_7 rfl hl (by decide) rfl (fun ls hl => ?_)
  refine va_new (ci := 5) (fs := [.int 0, .int 0, .null, .null, .null, .null, .null, .null, .null, .int 0, .int 0, .int 0, .int 0, .null, .int 0, .int 0, .int 0, .int 0, .int 0, .null, .null, .int 0, .null, .null, .null, .long 0, .null, .null]) (C := RX7) (T := TX7) (N := 28) hx hb ht inX7 tyX7 tyX7_ok hown (ht _ tw_649) (ht _ tw_650) (ht _ tw_7) hK hP hD hS hA rfl (fun j hj => by rcases (show j = 0 ∨ j = 1 ∨ j = 2 ∨ j = 3 ∨ j = 4 ∨ j = 5 ∨ j = 6 ∨ j = 7 ∨ j = 8 ∨ j = 9 ∨ j = 10 ∨ j = 11 ∨ j = 12 ∨ j = 13 ∨ j = 14 ∨ j = 15 ∨ j = 16 ∨ j = 17 ∨ j = 18 ∨ j = 19 ∨ j = 20 ∨ j = 21 ∨ j = 22 ∨ j = 23 ∨ j = 24 ∨ j = 25 ∨ j = 26 ∨ j = 27 by omega) with rfl | rfl | rfl | rfl | rfl | rfl | rfl | rfl | rfl | rfl | rfl | rfl | rfl | rfl | rfl | rfl | rfl | rfl | rfl | rfl | rfl | rfl | rfl | rfl | rfl | rfl | rfl | rfl <;> rfl) (Nat.le_of_ble_eq_true rfl) (Nat.le_of_ble_eq_true rfl) dL_law_8 (fun qm H hP hD hS => ?_)
  refine W.widen (k := 118) (n := 689) (by omega) (by omega) ?_
  refine lv_dup hx hb dL_law_11 rfl ?_
  have hPc := P_suf hP
  have hDc := D_suf hD
  have hFc := va_freeX hDc hS hA
  refine va_callv (va_runI (As := []) (rest := [.ref qm]) ⟨hx, hb, hml, hown, hts⟩ (c_X7_init l (dC, dI) cI cZ cW H.size qm) ⟨callB_of 0 hts (gT tw_653) rfl rfl rfl (ht _ tw_7) (ht _ tw_651) hd_X7_init ⟨Nat.le_of_ble_eq_true rfl, Nat.le_of_ble_eq_true rfl⟩, rfl, ht _ tw_652⟩ ⟨PW_blind, fun U hU hW => PW_mk hPc hDc hK hU hW⟩ rfl rfl hl.1 rfl (lv_room (Nat.le_of_ble_eq_true rfl)) dL_law_12 ⟨Nat.le_of_ble_eq_true rfl, Nat.le_of_ble_eq_true rfl⟩) hS (fun q _ h => hFc q h) hFc (fun u t H1 locs ht1 hvm hf hB hz1 hk1 hS => ?_)
  obtain ⟨q9, rfl⟩ : ∃ z, z = u := ⟨_, rfl⟩
  obtain ⟨hB, hDB⟩ := hB
  rw [ht1] at hB
  obtain ⟨hPn, hDn⟩ := cjM hP hD hFc hk1 hB hDB
  subst hf
  clear hP hD hPc hDc hFc
  generalize H1 = H at hPn hS ⊢
  refine W.widen (k := 133) (n := 1443) (by omega) (by omega) ?_
  refine lv_astore_n (lv' := [(2, .ref (q9 0)), (1, .ref (Z 0 0)), (0, .ref b)]) hx hb dL_law_15 rfl hl (by decide) rfl (fun ls hl => ?_)
  refine W.eq (g2 := F0 m 16 ls []) rfl ?_
  obtain ⟨aF, fF, hT0, hZ0⟩ := fac_of (A := A) hgv hts (ht _ tw_1) (fun a h => by rw [hAe]; exact Nat.not_le.mpr h)
  exact law_run l (dC, dI) cI cZ cW Y q9 Z S0 (a0 Y) m0 aF fF C0 hK (pure_law hL) H _ ls A hAe hT0 hZ0 hPn hDn hS hl
-- ===== YOUR PART ENDS =====
set_option maxHeartbeats 4000000 in
theorem lw_walk (l : Launch) (b : Addr) (xs : List Int32) : MetFree l x (headSpec (Jvm.Cond.code x code maxLocals ret :: tables_1) room_1) (lw_P b xs) (fun _ _ _ _ _ => True) lw_Q := by
  refine MetFree.of_bodyS (code := code) (maxLocals := maxLocals) (ret := ret) (by decide) ?_ ?_
  · intro args s m h hn
    obtain ⟨meth, c, h1, h2, h3, h4, h5, h6, -, -⟩ := Cond.code_spec hn (atoms_spec (ws := Jvm.Cond.code x code maxLocals ret :: tables_1) h _ List.mem_cons_self)
    exact ⟨meth, c, h1, h2, h3, h4, h5, h6⟩
  · intro p e s m args below meth c s₁ B hml0 hP _
    obtain ⟨rfl, hx, hbd, hgv⟩ := hP
    obtain ⟨scr, harrAt, hlist, hof, hsmall⟩ := hx
    obtain ⟨hcb, hkn, -, -⟩ := State.arrayAt?_spec harrAt
    have hown : s.vm.findClass R_law = some m.cls := findClass_of_methodNamed B.named
    have hts0 : ∀ c ∈ (Jvm.Cond.code x code maxLocals ret :: tables_1), c.before #[Value.ref b] s = true := atoms_spec (ws := Jvm.Cond.code x code maxLocals ret :: tables_1) B.pre
    have hts : ∀ w ∈ lw_tbl, w.before #[Value.ref b] s = true := k2_hts_sels lw_privs (fun w hw => hts0 w (List.mem_cons_of_mem _ hw)) lw_privs_ok
    have hml : c.maxLocals = 4 := B.maxLocals_eq (hts0 _ List.mem_cons_self)
    have X₀ : Stand p l e room_1 s m #[Value.ref b] below meth c s₁ [] 0 0 := Stand.of_body B
    have hh0 : s₁.heap = s.heap := by rw [B.state]; rfl
    have hsz : scr.slots.size = xs.length := by rw [← Array.length_toList, hlist, List.length_map]
    have hval : ∀ j : Nat, j < xs.length → scr.slots[j]? = some (.int (xs.getD j 0)) := fun j hj => by
      rw [← Array.getElem?_toList, hlist]
      simp [hj]
    have hbl : b < s.heap.size := (Array.getElem?_eq_some_iff.mp hcb).1
    have hX : va_X b xs.length (fun j => xs.getD j 0) s s.heap := ⟨scr, hcb, hof, hkn, hsz, hval⟩
    have K : W p l e room_1 s m #[Value.ref b] below meth c s₁.heap [] 0 0 (lw_Z below #[Value.ref b] s) (entryFrame m ([Value.ref b] : List Value).toArray 4) := by
      rw [hh0]
      exact whole_start l hbd ⟨B.exec, B.bytes, B.returns, hml, hown, hts, hX, hbl, B.notSynchronized, hgv⟩
    obtain ⟨t, a1, o, b1, b2, b3⟩ := K s₁ rfl X₀
    exact ⟨t, o, a1, b1, b2, b3⟩
theorem lw_pre_spec {args : Array Value} {s : State} (h : (Jvm.Cond.and given_1 narrow_1).before args s = true) (hr : rest_1_c.before args s = true) : ∃ (b : Addr) (xs : List Int32), lw_P b xs args s := by
  have hs := flat_of_before _ h
  have hq := flat_of_before _ hr
  have hc : (Cond.count 1).before args s = true := hs _ (by decide +kernel)
  have harr : (Cond.arrayOf (.arg 0) .int).before args s = true := hs _ (by decide +kernel)
  have hle : (Cond.le (.length (.arg 0)) (.int 2560)).before args s = true := hs _ (by decide +kernel)
  have hlen : (Cond.isInt (.length (.arg 0))).before args s = true := hq _ (by decide +kernel)
  have hall : (Cond.all (.arg 0) (.isInt (.elem (.arg 0) (.index 0)))).before args s = true := hq _ (by decide +kernel)
  obtain ⟨b, xs, hb, hx⟩ := State.ints_of_pre rfl harr hlen hall
  have hsm : xs.length < 2 ^ 31 := hx.choose_spec.2.2.2
  have hev : (Term.length (.arg 0)).eval args s none [] s = some (.int xs.length.toInt32) := hx.length_eval hb
  have hv := Cond.le_ints hev (show (Term.int 2560).eval args s none [] s = some (.int 2560) from rfl)
  have hd : xs.length.toInt32 ≤ 2560 := by
    simpa [Cond.before, Cond.holds, hv] using hle
  have hN : xs.length ≤ 2560 := (Int32.ofNat_le_ofNat hsm (by decide)).mp (show Int32.ofNat xs.length ≤ Int32.ofNat 2560 from hd)
  exact ⟨b, xs, Cond.one_arg hc (show args[0]? = some (.ref b) from hb), hx, hN, h⟩
theorem lw_comes (l : Launch) : Comes l x (Jvm.Cond.code x code maxLocals ret :: tables_1) room_1 (fun tb e args s => Calls_1 tb e args s ∧ rest_1 tb e args s ∧ Pre_1 tb e args s)
    (fun _ _ args s o t => lw_Q args s o t) := by
  intro p e ha hc hk s m args below hf hfit hheap happ hpre
  obtain ⟨b, xs, hP⟩ := lw_pre_spec hpre.2.2 hpre.2.1
  obtain ⟨k, o, h1, h2, h3, hQ⟩ := lw_walk l b xs p e ha hc hk s m args below hf ((Spec.applies_iff_loose hf).mp happ).1 hP trivial
  exact ⟨k, o, h1, h2, h3, hQ⟩
theorem lw_frame {s t : State} {o : Outcome} {args : Array Value} (h : Framed s o t [] 600000 7302250) :
    Framed s o t (fieldLocs frame_1_writes args s ++ arrayLocs frame_1_arrays args s ++ staticLocs frame_1_statics s) 600000 7302250 := h
theorem lw_limb (L : Cond) (hL : ∀ (args : Array Value) (s t : State), L.after args s (.returned (some (.int 1))) t = true) :
    ArmFor flags0 classFile x code maxLocals ret World_1 tables_1 room_1 Calls_1 rest_1 Pre_1
      (fun tb e a s o t => postC L tb e a s o t ∧ Framed s o t (fieldLocs frame_1_writes a s ++ arrayLocs frame_1_arrays a s ++ staticLocs frame_1_statics s) 600000 7302250) := by
  intro l _ _ _ p e ha hc hk s m args below hf hfit hheap happ hpre
  obtain ⟨k, o, h1, h2, h3, rfl, hF⟩ := lw_comes l p e ha hc hk s m args below hf hfit hheap happ hpre
  exact ⟨k, _, h1, h2, h3, hL args s _, lw_frame hF⟩
theorem i_vc : Claimed_1_1 ∧ Claimed_1_2 := ⟨lw_limb limb_1_1 (fun args s t => by simp [limb_1_1, Cond.after, Cond.holds, Cond.value]), lw_limb limb_1_2 (fun args s t => Cond.after_iff.mpr (by
  first | (rw [show limb_1_2 = Cond.eq .result (.int 1) from rfl, Cond.eq_ints (x := 1) (y := 1) rfl rfl]; simp; done) | (simp [limb_1_2, Cond.value, Term.eval]; done)))⟩
