theorem PB_s {D : va_G} {cI cZ cW : ClassId} {q r : Nat → Nat} {Y : Nat → Nat → Nat} {a : AS} {w : CS} {H : Heap} (h : va_P D classes (AW cI cZ cW q r Y a w) H) : va_P D classes (wA cI cZ cW q Y a) H := P_suf (pre := wW cI cZ r w) h
theorem JB_s {D : va_G} {cI cZ cW : ClassId} {q r : Nat → Nat} {Y : Nat → Nat → Nat} {a : AS} {w : CS} {H : Heap} {A : Nat → Prop} {a2 : AS} {H1 : Heap} (hP : va_P D classes (AW cI cZ cW q r Y a w) H) (hD : va_D A (AW cI cZ cW q r Y a w)) (hk : ∀ z : Nat, z < H.size → ¬ va_A (wA cI cZ cW q Y a) H.size z → H1[z]? = H[z]?) (hB : va_P D classes (wA cI cZ cW q Y a2) H1) : va_P D classes (AW cI cZ cW q r Y a2 w) H1 := cj2 (pre := wW cI cZ r w) (suf := wA cI cZ cW q Y a) (suf1 := wA cI cZ cW q Y a2) (c1 := []) (w1 := []) [] hP hD rfl rfl hk hB
theorem PB_fw {D : va_G} {cI cZ cW : ClassId} {q r : Nat → Nat} {Y : Nat → Nat → Nat} {a : AS} {w : CS} {H : Heap} {k : Nat} (hk : k < 14) (h : va_P D classes (AW cI cZ cW q r Y a w) H) : va_P D classes (wW cI cZ (Y k) (a.2.2 k) ++ wW cI cZ r w) H := by
  rcases (show k = 0 ∨ k = 1 ∨ k = 2 ∨ k = 3 ∨ k = 4 ∨ k = 5 ∨ k = 6 ∨ k = 7 ∨ k = 8 ∨ k = 9 ∨ k = 10 ∨ k = 11 ∨ k = 12 ∨ k = 13 by omega) with rfl | rfl | rfl | rfl | rfl | rfl | rfl | rfl | rfl | rfl | rfl | rfl | rfl | rfl
  · exact h.sub [7, 8, 9, 10, 11, 0, 1, 2, 3, 4] rfl
  · exact h.sub [12, 13, 14, 15, 16, 0, 1, 2, 3, 4] rfl
  · exact h.sub [17, 18, 19, 20, 21, 0, 1, 2, 3, 4] rfl
  · exact h.sub [22, 23, 24, 25, 26, 0, 1, 2, 3, 4] rfl
  · exact h.sub [27, 28, 29, 30, 31, 0, 1, 2, 3, 4] rfl
  · exact h.sub [32, 33, 34, 35, 36, 0, 1, 2, 3, 4] rfl
  · exact h.sub [37, 38, 39, 40, 41, 0, 1, 2, 3, 4] rfl
  · exact h.sub [42, 43, 44, 45, 46, 0, 1, 2, 3, 4] rfl
  · exact h.sub [47, 48, 49, 50, 51, 0, 1, 2, 3, 4] rfl
  · exact h.sub [52, 53, 54, 55, 56, 0, 1, 2, 3, 4] rfl
  · exact h.sub [57, 58, 59, 60, 61, 0, 1, 2, 3, 4] rfl
  · exact h.sub [62, 63, 64, 65, 66, 0, 1, 2, 3, 4] rfl
  · exact h.sub [67, 68, 69, 70, 71, 0, 1, 2, 3, 4] rfl
  · exact h.sub [72, 73, 74, 75, 76, 0, 1, 2, 3, 4] rfl
theorem DB_fw {cI cZ cW : ClassId} {q r : Nat → Nat} {Y : Nat → Nat → Nat} {a : AS} {w : CS} {k : Nat} {A : Nat → Prop} (hk : k < 14) (h : va_D A (AW cI cZ cW q r Y a w)) : va_D A (wW cI cZ (Y k) (a.2.2 k) ++ wW cI cZ r w) := by
  rcases (show k = 0 ∨ k = 1 ∨ k = 2 ∨ k = 3 ∨ k = 4 ∨ k = 5 ∨ k = 6 ∨ k = 7 ∨ k = 8 ∨ k = 9 ∨ k = 10 ∨ k = 11 ∨ k = 12 ∨ k = 13 by omega) with rfl | rfl | rfl | rfl | rfl | rfl | rfl | rfl | rfl | rfl | rfl | rfl | rfl | rfl
  · exact h.sub [7, 8, 9, 10, 11, 0, 1, 2, 3, 4] (by decide) rfl
  · exact h.sub [12, 13, 14, 15, 16, 0, 1, 2, 3, 4] (by decide) rfl
  · exact h.sub [17, 18, 19, 20, 21, 0, 1, 2, 3, 4] (by decide) rfl
  · exact h.sub [22, 23, 24, 25, 26, 0, 1, 2, 3, 4] (by decide) rfl
  · exact h.sub [27, 28, 29, 30, 31, 0, 1, 2, 3, 4] (by decide) rfl
  · exact h.sub [32, 33, 34, 35, 36, 0, 1, 2, 3, 4] (by decide) rfl
  · exact h.sub [37, 38, 39, 40, 41, 0, 1, 2, 3, 4] (by decide) rfl
  · exact h.sub [42, 43, 44, 45, 46, 0, 1, 2, 3, 4] (by decide) rfl
  · exact h.sub [47, 48, 49, 50, 51, 0, 1, 2, 3, 4] (by decide) rfl
  · exact h.sub [52, 53, 54, 55, 56, 0, 1, 2, 3, 4] (by decide) rfl
  · exact h.sub [57, 58, 59, 60, 61, 0, 1, 2, 3, 4] (by decide) rfl
  · exact h.sub [62, 63, 64, 65, 66, 0, 1, 2, 3, 4] (by decide) rfl
  · exact h.sub [67, 68, 69, 70, 71, 0, 1, 2, 3, 4] (by decide) rfl
  · exact h.sub [72, 73, 74, 75, 76, 0, 1, 2, 3, 4] (by decide) rfl
set_option maxRecDepth 100000 in
theorem JB_fw {D : va_G} {cI cZ cW : ClassId} {q r : Nat → Nat} {Y : Nat → Nat → Nat} {a : AS} {w : CS} {H : Heap} {k : Nat} {A : Nat → Prop} {f v : CS} {H1 : Heap} (hk : k < 14) (hP : va_P D classes (AW cI cZ cW q r Y a w) H) (hD : va_D A (AW cI cZ cW q r Y a w)) (hk1 : ∀ z : Nat, z < H.size → ¬ va_A (wW cI cZ (Y k) (a.2.2 k) ++ wW cI cZ r w) H.size z → H1[z]? = H[z]?) (hB : va_P D classes (wW cI cZ (Y k) f ++ wW cI cZ r v) H1) : va_P D classes (AW cI cZ cW q r Y (a.1, a.2.1, va_up a.2.2 k f) v) H1 := by
  rcases (show k = 0 ∨ k = 1 ∨ k = 2 ∨ k = 3 ∨ k = 4 ∨ k = 5 ∨ k = 6 ∨ k = 7 ∨ k = 8 ∨ k = 9 ∨ k = 10 ∨ k = 11 ∨ k = 12 ∨ k = 13 by omega) with rfl | rfl | rfl | rfl | rfl | rfl | rfl | rfl | rfl | rfl | rfl | rfl | rfl | rfl
  · exact (cj [7, 8, 9, 10, 11, 0, 1, 2, 3, 4] (wW cI cZ (Y 0) (a.2.2 0) ++ wW cI cZ r w) (wW cI cZ (Y 0) f ++ wW cI cZ r v) hP hD rfl rfl hk1 hB).1
  · exact (cj [12, 13, 14, 15, 16, 0, 1, 2, 3, 4] (wW cI cZ (Y 1) (a.2.2 1) ++ wW cI cZ r w) (wW cI cZ (Y 1) f ++ wW cI cZ r v) hP hD rfl rfl hk1 hB).1
  · exact (cj [17, 18, 19, 20, 21, 0, 1, 2, 3, 4] (wW cI cZ (Y 2) (a.2.2 2) ++ wW cI cZ r w) (wW cI cZ (Y 2) f ++ wW cI cZ r v) hP hD rfl rfl hk1 hB).1
  · exact (cj [22, 23, 24, 25, 26, 0, 1, 2, 3, 4] (wW cI cZ (Y 3) (a.2.2 3) ++ wW cI cZ r w) (wW cI cZ (Y 3) f ++ wW cI cZ r v) hP hD rfl rfl hk1 hB).1
  · exact (cj [27, 28, 29, 30, 31, 0, 1, 2, 3, 4] (wW cI cZ (Y 4) (a.2.2 4) ++ wW cI cZ r w) (wW cI cZ (Y 4) f ++ wW cI cZ r v) hP hD rfl rfl hk1 hB).1
  · exact (cj [32, 33, 34, 35, 36, 0, 1, 2, 3, 4] (wW cI cZ (Y 5) (a.2.2 5) ++ wW cI cZ r w) (wW cI cZ (Y 5) f ++ wW cI cZ r v) hP hD rfl rfl hk1 hB).1
  · exact (cj [37, 38, 39, 40, 41, 0, 1, 2, 3, 4] (wW cI cZ (Y 6) (a.2.2 6) ++ wW cI cZ r w) (wW cI cZ (Y 6) f ++ wW cI cZ r v) hP hD rfl rfl hk1 hB).1
  · exact (cj [42, 43, 44, 45, 46, 0, 1, 2, 3, 4] (wW cI cZ (Y 7) (a.2.2 7) ++ wW cI cZ r w) (wW cI cZ (Y 7) f ++ wW cI cZ r v) hP hD rfl rfl hk1 hB).1
  · exact (cj [47, 48, 49, 50, 51, 0, 1, 2, 3, 4] (wW cI cZ (Y 8) (a.2.2 8) ++ wW cI cZ r w) (wW cI cZ (Y 8) f ++ wW cI cZ r v) hP hD rfl rfl hk1 hB).1
  · exact (cj [52, 53, 54, 55, 56, 0, 1, 2, 3, 4] (wW cI cZ (Y 9) (a.2.2 9) ++ wW cI cZ r w) (wW cI cZ (Y 9) f ++ wW cI cZ r v) hP hD rfl rfl hk1 hB).1
  · exact (cj [57, 58, 59, 60, 61, 0, 1, 2, 3, 4] (wW cI cZ (Y 10) (a.2.2 10) ++ wW cI cZ r w) (wW cI cZ (Y 10) f ++ wW cI cZ r v) hP hD rfl rfl hk1 hB).1
  · exact (cj [62, 63, 64, 65, 66, 0, 1, 2, 3, 4] (wW cI cZ (Y 11) (a.2.2 11) ++ wW cI cZ r w) (wW cI cZ (Y 11) f ++ wW cI cZ r v) hP hD rfl rfl hk1 hB).1
  · exact (cj [67, 68, 69, 70, 71, 0, 1, 2, 3, 4] (wW cI cZ (Y 12) (a.2.2 12) ++ wW cI cZ r w) (wW cI cZ (Y 12) f ++ wW cI cZ r v) hP hD rfl rfl hk1 hB).1
  · exact (cj [72, 73, 74, 75, 76, 0, 1, 2, 3, 4] (wW cI cZ (Y 13) (a.2.2 13) ++ wW cI cZ r w) (wW cI cZ (Y 13) f ++ wW cI cZ r v) hP hD rfl rfl hk1 hB).1
theorem PB_bw {D : va_G} {cI cZ cW : ClassId} {q r : Nat → Nat} {Y : Nat → Nat → Nat} {a : AS} {w : CS} {H : Heap} {k : Nat} (hk : k < 14) (h : va_P D classes (AW cI cZ cW q r Y a w) H) : va_P D classes (wW cI cZ r w ++ wW cI cZ (Y k) (a.2.2 k)) H := by
  rcases (show k = 0 ∨ k = 1 ∨ k = 2 ∨ k = 3 ∨ k = 4 ∨ k = 5 ∨ k = 6 ∨ k = 7 ∨ k = 8 ∨ k = 9 ∨ k = 10 ∨ k = 11 ∨ k = 12 ∨ k = 13 by omega) with rfl | rfl | rfl | rfl | rfl | rfl | rfl | rfl | rfl | rfl | rfl | rfl | rfl | rfl
  · exact h.sub [0, 1, 2, 3, 4, 7, 8, 9, 10, 11] rfl
  · exact h.sub [0, 1, 2, 3, 4, 12, 13, 14, 15, 16] rfl
  · exact h.sub [0, 1, 2, 3, 4, 17, 18, 19, 20, 21] rfl
  · exact h.sub [0, 1, 2, 3, 4, 22, 23, 24, 25, 26] rfl
  · exact h.sub [0, 1, 2, 3, 4, 27, 28, 29, 30, 31] rfl
  · exact h.sub [0, 1, 2, 3, 4, 32, 33, 34, 35, 36] rfl
  · exact h.sub [0, 1, 2, 3, 4, 37, 38, 39, 40, 41] rfl
  · exact h.sub [0, 1, 2, 3, 4, 42, 43, 44, 45, 46] rfl
  · exact h.sub [0, 1, 2, 3, 4, 47, 48, 49, 50, 51] rfl
  · exact h.sub [0, 1, 2, 3, 4, 52, 53, 54, 55, 56] rfl
  · exact h.sub [0, 1, 2, 3, 4, 57, 58, 59, 60, 61] rfl
  · exact h.sub [0, 1, 2, 3, 4, 62, 63, 64, 65, 66] rfl
  · exact h.sub [0, 1, 2, 3, 4, 67, 68, 69, 70, 71] rfl
  · exact h.sub [0, 1, 2, 3, 4, 72, 73, 74, 75, 76] rfl
theorem DB_bw {cI cZ cW : ClassId} {q r : Nat → Nat} {Y : Nat → Nat → Nat} {a : AS} {w : CS} {k : Nat} {A : Nat → Prop} (hk : k < 14) (h : va_D A (AW cI cZ cW q r Y a w)) : va_D A (wW cI cZ r w ++ wW cI cZ (Y k) (a.2.2 k)) := by
  rcases (show k = 0 ∨ k = 1 ∨ k = 2 ∨ k = 3 ∨ k = 4 ∨ k = 5 ∨ k = 6 ∨ k = 7 ∨ k = 8 ∨ k = 9 ∨ k = 10 ∨ k = 11 ∨ k = 12 ∨ k = 13 by omega) with rfl | rfl | rfl | rfl | rfl | rfl | rfl | rfl | rfl | rfl | rfl | rfl | rfl | rfl
  · exact h.sub [0, 1, 2, 3, 4, 7, 8, 9, 10, 11] (by decide) rfl
  · exact h.sub [0, 1, 2, 3, 4, 12, 13, 14, 15, 16] (by decide) rfl
  · exact h.sub [0, 1, 2, 3, 4, 17, 18, 19, 20, 21] (by decide) rfl
  · exact h.sub [0, 1, 2, 3, 4, 22, 23, 24, 25, 26] (by decide) rfl
  · exact h.sub [0, 1, 2, 3, 4, 27, 28, 29, 30, 31] (by decide) rfl
  · exact h.sub [0, 1, 2, 3, 4, 32, 33, 34, 35, 36] (by decide) rfl
  · exact h.sub [0, 1, 2, 3, 4, 37, 38, 39, 40, 41] (by decide) rfl
  · exact h.sub [0, 1, 2, 3, 4, 42, 43, 44, 45, 46] (by decide) rfl
  · exact h.sub [0, 1, 2, 3, 4, 47, 48, 49, 50, 51] (by decide) rfl
  · exact h.sub [0, 1, 2, 3, 4, 52, 53, 54, 55, 56] (by decide) rfl
  · exact h.sub [0, 1, 2, 3, 4, 57, 58, 59, 60, 61] (by decide) rfl
  · exact h.sub [0, 1, 2, 3, 4, 62, 63, 64, 65, 66] (by decide) rfl
  · exact h.sub [0, 1, 2, 3, 4, 67, 68, 69, 70, 71] (by decide) rfl
  · exact h.sub [0, 1, 2, 3, 4, 72, 73, 74, 75, 76] (by decide) rfl
set_option maxRecDepth 100000 in
theorem JB_bw {D : va_G} {cI cZ cW : ClassId} {q r : Nat → Nat} {Y : Nat → Nat → Nat} {a : AS} {w : CS} {H : Heap} {k : Nat} {A : Nat → Prop} {f v : CS} {H1 : Heap} (hk : k < 14) (hP : va_P D classes (AW cI cZ cW q r Y a w) H) (hD : va_D A (AW cI cZ cW q r Y a w)) (hk1 : ∀ z : Nat, z < H.size → ¬ va_A (wW cI cZ r w ++ wW cI cZ (Y k) (a.2.2 k)) H.size z → H1[z]? = H[z]?) (hB : va_P D classes (wW cI cZ r v ++ wW cI cZ (Y k) f) H1) : va_P D classes (AW cI cZ cW q r Y (a.1, a.2.1, va_up a.2.2 k f) v) H1 := by
  rcases (show k = 0 ∨ k = 1 ∨ k = 2 ∨ k = 3 ∨ k = 4 ∨ k = 5 ∨ k = 6 ∨ k = 7 ∨ k = 8 ∨ k = 9 ∨ k = 10 ∨ k = 11 ∨ k = 12 ∨ k = 13 by omega) with rfl | rfl | rfl | rfl | rfl | rfl | rfl | rfl | rfl | rfl | rfl | rfl | rfl | rfl
  · exact (cj [0, 1, 2, 3, 4, 7, 8, 9, 10, 11] (wW cI cZ r w ++ wW cI cZ (Y 0) (a.2.2 0)) (wW cI cZ r v ++ wW cI cZ (Y 0) f) hP hD rfl rfl hk1 hB).1
  · exact (cj [0, 1, 2, 3, 4, 12, 13, 14, 15, 16] (wW cI cZ r w ++ wW cI cZ (Y 1) (a.2.2 1)) (wW cI cZ r v ++ wW cI cZ (Y 1) f) hP hD rfl rfl hk1 hB).1
  · exact (cj [0, 1, 2, 3, 4, 17, 18, 19, 20, 21] (wW cI cZ r w ++ wW cI cZ (Y 2) (a.2.2 2)) (wW cI cZ r v ++ wW cI cZ (Y 2) f) hP hD rfl rfl hk1 hB).1
  · exact (cj [0, 1, 2, 3, 4, 22, 23, 24, 25, 26] (wW cI cZ r w ++ wW cI cZ (Y 3) (a.2.2 3)) (wW cI cZ r v ++ wW cI cZ (Y 3) f) hP hD rfl rfl hk1 hB).1
  · exact (cj [0, 1, 2, 3, 4, 27, 28, 29, 30, 31] (wW cI cZ r w ++ wW cI cZ (Y 4) (a.2.2 4)) (wW cI cZ r v ++ wW cI cZ (Y 4) f) hP hD rfl rfl hk1 hB).1
  · exact (cj [0, 1, 2, 3, 4, 32, 33, 34, 35, 36] (wW cI cZ r w ++ wW cI cZ (Y 5) (a.2.2 5)) (wW cI cZ r v ++ wW cI cZ (Y 5) f) hP hD rfl rfl hk1 hB).1
  · exact (cj [0, 1, 2, 3, 4, 37, 38, 39, 40, 41] (wW cI cZ r w ++ wW cI cZ (Y 6) (a.2.2 6)) (wW cI cZ r v ++ wW cI cZ (Y 6) f) hP hD rfl rfl hk1 hB).1
  · exact (cj [0, 1, 2, 3, 4, 42, 43, 44, 45, 46] (wW cI cZ r w ++ wW cI cZ (Y 7) (a.2.2 7)) (wW cI cZ r v ++ wW cI cZ (Y 7) f) hP hD rfl rfl hk1 hB).1
  · exact (cj [0, 1, 2, 3, 4, 47, 48, 49, 50, 51] (wW cI cZ r w ++ wW cI cZ (Y 8) (a.2.2 8)) (wW cI cZ r v ++ wW cI cZ (Y 8) f) hP hD rfl rfl hk1 hB).1
  · exact (cj [0, 1, 2, 3, 4, 52, 53, 54, 55, 56] (wW cI cZ r w ++ wW cI cZ (Y 9) (a.2.2 9)) (wW cI cZ r v ++ wW cI cZ (Y 9) f) hP hD rfl rfl hk1 hB).1
  · exact (cj [0, 1, 2, 3, 4, 57, 58, 59, 60, 61] (wW cI cZ r w ++ wW cI cZ (Y 10) (a.2.2 10)) (wW cI cZ r v ++ wW cI cZ (Y 10) f) hP hD rfl rfl hk1 hB).1
  · exact (cj [0, 1, 2, 3, 4, 62, 63, 64, 65, 66] (wW cI cZ r w ++ wW cI cZ (Y 11) (a.2.2 11)) (wW cI cZ r v ++ wW cI cZ (Y 11) f) hP hD rfl rfl hk1 hB).1
  · exact (cj [0, 1, 2, 3, 4, 67, 68, 69, 70, 71] (wW cI cZ r w ++ wW cI cZ (Y 12) (a.2.2 12)) (wW cI cZ r v ++ wW cI cZ (Y 12) f) hP hD rfl rfl hk1 hB).1
  · exact (cj [0, 1, 2, 3, 4, 72, 73, 74, 75, 76] (wW cI cZ r w ++ wW cI cZ (Y 13) (a.2.2 13)) (wW cI cZ r v ++ wW cI cZ (Y 13) f) hP hD rfl rfl hk1 hB).1
theorem dX0_forgetAll_0 : decode cX0_forgetAll 0 = .ok (.aload_n 0, 1) := by decide +kernel
theorem dX0_forgetAll_1 : decode cX0_forgetAll 1 = .ok (.iconst 0, 1) := by decide +kernel
theorem dX0_forgetAll_2 : decode cX0_forgetAll 2 = .ok (.putfield 17, 3) := by decide +kernel
theorem dX0_forgetAll_5 : decode cX0_forgetAll 5 = .ok (.return_, 1) := by decide +kernel
theorem dX0_wheelAt_0 : decode cX0_wheelAt 0 = .ok (.iload_n 1, 1) := by decide +kernel
theorem dX0_wheelAt_1 : decode cX0_wheelAt 1 = .ok (.ifCond .lt 18, 3) := by decide +kernel
theorem dX0_wheelAt_4 : decode cX0_wheelAt 4 = .ok (.iload_n 1, 1) := by decide +kernel
theorem dX0_wheelAt_5 : decode cX0_wheelAt 5 = .ok (.bipush 14, 2) := by decide +kernel
theorem dX0_wheelAt_7 : decode cX0_wheelAt 7 = .ok (.if_icmp .ge 12, 3) := by decide +kernel
theorem dX0_wheelAt_10 : decode cX0_wheelAt 10 = .ok (.aload_n 0, 1) := by decide +kernel
theorem dX0_wheelAt_11 : decode cX0_wheelAt 11 = .ok (.getfield 11, 3) := by decide +kernel
theorem dX0_wheelAt_14 : decode cX0_wheelAt 14 = .ok (.iload_n 1, 1) := by decide +kernel
theorem dX0_wheelAt_15 : decode cX0_wheelAt 15 = .ok (.aaload, 1) := by decide +kernel
theorem dX0_wheelAt_16 : decode cX0_wheelAt 16 = .ok (.goto 4, 3) := by decide +kernel
theorem dX0_wheelAt_19 : decode cX0_wheelAt 19 = .ok (.aconst_null, 1) := by decide +kernel
theorem dX0_wheelAt_20 : decode cX0_wheelAt 20 = .ok (.areturn, 1) := by decide +kernel
theorem dX0_forgetFirst_0 : decode cX0_forgetFirst 0 = .ok (.aload_n 0, 1) := by decide +kernel
theorem dX0_forgetFirst_1 : decode cX0_forgetFirst 1 = .ok (.getfield 11, 3) := by decide +kernel
theorem dX0_forgetFirst_4 : decode cX0_forgetFirst 4 = .ok (.iconst 0, 1) := by decide +kernel
theorem dX0_forgetFirst_5 : decode cX0_forgetFirst 5 = .ok (.aaload, 1) := by decide +kernel
theorem dX0_forgetFirst_6 : decode cX0_forgetFirst 6 = .ok (.astore_n 1, 1) := by decide +kernel
theorem dX0_forgetFirst_7 : decode cX0_forgetFirst 7 = .ok (.iconst 1, 1) := by decide +kernel
theorem dX0_forgetFirst_8 : decode cX0_forgetFirst 8 = .ok (.istore_n 2, 1) := by decide +kernel
theorem dX0_forgetFirst_9 : decode cX0_forgetFirst 9 = .ok (.iload_n 2, 1) := by decide +kernel
theorem dX0_forgetFirst_10 : decode cX0_forgetFirst 10 = .ok (.bipush 14, 2) := by decide +kernel
theorem dX0_forgetFirst_12 : decode cX0_forgetFirst 12 = .ok (.if_icmp .ge 23, 3) := by decide +kernel
theorem dX0_forgetFirst_15 : decode cX0_forgetFirst 15 = .ok (.aload_n 0, 1) := by decide +kernel
theorem dX0_forgetFirst_16 : decode cX0_forgetFirst 16 = .ok (.getfield 11, 3) := by decide +kernel
theorem dX0_forgetFirst_19 : decode cX0_forgetFirst 19 = .ok (.iload_n 2, 1) := by decide +kernel
theorem dX0_forgetFirst_20 : decode cX0_forgetFirst 20 = .ok (.iconst 1, 1) := by decide +kernel
theorem dX0_forgetFirst_21 : decode cX0_forgetFirst 21 = .ok (.isub, 1) := by decide +kernel
theorem dX0_forgetFirst_22 : decode cX0_forgetFirst 22 = .ok (.aload_n 0, 1) := by decide +kernel
theorem dX0_forgetFirst_23 : decode cX0_forgetFirst 23 = .ok (.getfield 11, 3) := by decide +kernel
theorem dX0_forgetFirst_26 : decode cX0_forgetFirst 26 = .ok (.iload_n 2, 1) := by decide +kernel
theorem dX0_forgetFirst_27 : decode cX0_forgetFirst 27 = .ok (.aaload, 1) := by decide +kernel
theorem dX0_forgetFirst_28 : decode cX0_forgetFirst 28 = .ok (.aastore, 1) := by decide +kernel
theorem dX0_forgetFirst_29 : decode cX0_forgetFirst 29 = .ok (.iinc 2 1, 3) := by decide +kernel
theorem dX0_forgetFirst_32 : decode cX0_forgetFirst 32 = .ok (.goto (-23), 3) := by decide +kernel
theorem dX0_forgetFirst_35 : decode cX0_forgetFirst 35 = .ok (.aload_n 0, 1) := by decide +kernel
theorem dX0_forgetFirst_36 : decode cX0_forgetFirst 36 = .ok (.getfield 11, 3) := by decide +kernel
theorem dX0_forgetFirst_39 : decode cX0_forgetFirst 39 = .ok (.bipush 13, 2) := by decide +kernel
theorem dX0_forgetFirst_41 : decode cX0_forgetFirst 41 = .ok (.aload_n 1, 1) := by decide +kernel
theorem dX0_forgetFirst_42 : decode cX0_forgetFirst 42 = .ok (.aastore, 1) := by decide +kernel
theorem dX0_forgetFirst_43 : decode cX0_forgetFirst 43 = .ok (.aload_n 0, 1) := by decide +kernel
theorem dX0_forgetFirst_44 : decode cX0_forgetFirst 44 = .ok (.bipush 13, 2) := by decide +kernel
theorem dX0_forgetFirst_46 : decode cX0_forgetFirst 46 = .ok (.putfield 17, 3) := by decide +kernel
theorem dX0_forgetFirst_49 : decode cX0_forgetFirst 49 = .ok (.return_, 1) := by decide +kernel
theorem dX0_remember_0 : decode cX0_remember 0 = .ok (.aload_n 0, 1) := by decide +kernel
theorem dX0_remember_1 : decode cX0_remember 1 = .ok (.getfield 17, 3) := by decide +kernel
theorem dX0_remember_4 : decode cX0_remember 4 = .ok (.bipush 14, 2) := by decide +kernel
theorem dX0_remember_6 : decode cX0_remember 6 = .ok (.if_icmp .lt 7, 3) := by decide +kernel
theorem dX0_remember_9 : decode cX0_remember 9 = .ok (.aload_n 0, 1) := by decide +kernel
theorem dX0_remember_10 : decode cX0_remember 10 = .ok (.invokevirtual 22, 3) := by decide +kernel
theorem dX0_remember_13 : decode cX0_remember 13 = .ok (.aload_n 0, 1) := by decide +kernel
theorem dX0_remember_14 : decode cX0_remember 14 = .ok (.aload_n 0, 1) := by decide +kernel
theorem dX0_remember_15 : decode cX0_remember 15 = .ok (.getfield 17, 3) := by decide +kernel
theorem dX0_remember_18 : decode cX0_remember 18 = .ok (.invokevirtual 25, 3) := by decide +kernel
theorem dX0_remember_21 : decode cX0_remember 21 = .ok (.astore_n 2, 1) := by decide +kernel
theorem dX0_remember_22 : decode cX0_remember 22 = .ok (.aload_n 2, 1) := by decide +kernel
theorem dX0_remember_23 : decode cX0_remember 23 = .ok (.ifnull 18, 3) := by decide +kernel
theorem dX0_remember_26 : decode cX0_remember 26 = .ok (.aload_n 2, 1) := by decide +kernel
theorem dX0_remember_27 : decode cX0_remember 27 = .ok (.aload_n 1, 1) := by decide +kernel
theorem dX0_remember_28 : decode cX0_remember 28 = .ok (.invokevirtual 29, 3) := by decide +kernel
theorem dX0_remember_31 : decode cX0_remember 31 = .ok (.aload_n 0, 1) := by decide +kernel
theorem dX0_remember_32 : decode cX0_remember 32 = .ok (.dup, 1) := by decide +kernel
theorem dX0_remember_33 : decode cX0_remember 33 = .ok (.getfield 17, 3) := by decide +kernel
theorem dX0_remember_36 : decode cX0_remember 36 = .ok (.iconst 1, 1) := by decide +kernel
theorem dX0_remember_37 : decode cX0_remember 37 = .ok (.iadd, 1) := by decide +kernel
theorem dX0_remember_38 : decode cX0_remember 38 = .ok (.putfield 17, 3) := by decide +kernel
theorem dX0_remember_41 : decode cX0_remember 41 = .ok (.return_, 1) := by decide +kernel
theorem dX0_takeBack_0 : decode cX0_takeBack 0 = .ok (.aload_n 0, 1) := by decide +kernel
theorem dX0_takeBack_1 : decode cX0_takeBack 1 = .ok (.aload_n 0, 1) := by decide +kernel
theorem dX0_takeBack_2 : decode cX0_takeBack 2 = .ok (.getfield 17, 3) := by decide +kernel
theorem dX0_takeBack_5 : decode cX0_takeBack 5 = .ok (.iconst 1, 1) := by decide +kernel
theorem dX0_takeBack_6 : decode cX0_takeBack 6 = .ok (.isub, 1) := by decide +kernel
theorem dX0_takeBack_7 : decode cX0_takeBack 7 = .ok (.invokevirtual 25, 3) := by decide +kernel
theorem dX0_takeBack_10 : decode cX0_takeBack 10 = .ok (.astore_n 2, 1) := by decide +kernel
theorem dX0_takeBack_11 : decode cX0_takeBack 11 = .ok (.aload_n 2, 1) := by decide +kernel
theorem dX0_takeBack_12 : decode cX0_takeBack 12 = .ok (.ifnull 18, 3) := by decide +kernel
theorem dX0_takeBack_15 : decode cX0_takeBack 15 = .ok (.aload_n 1, 1) := by decide +kernel
theorem dX0_takeBack_16 : decode cX0_takeBack 16 = .ok (.aload_n 2, 1) := by decide +kernel
theorem dX0_takeBack_17 : decode cX0_takeBack 17 = .ok (.invokevirtual 29, 3) := by decide +kernel
theorem dX0_takeBack_20 : decode cX0_takeBack 20 = .ok (.aload_n 0, 1) := by decide +kernel
theorem dX0_takeBack_21 : decode cX0_takeBack 21 = .ok (.dup, 1) := by decide +kernel
theorem dX0_takeBack_22 : decode cX0_takeBack 22 = .ok (.getfield 17, 3) := by decide +kernel
theorem dX0_takeBack_25 : decode cX0_takeBack 25 = .ok (.iconst 1, 1) := by decide +kernel
theorem dX0_takeBack_26 : decode cX0_takeBack 26 = .ok (.isub, 1) := by decide +kernel
theorem dX0_takeBack_27 : decode cX0_takeBack 27 = .ok (.putfield 17, 3) := by decide +kernel
theorem dX0_takeBack_30 : decode cX0_takeBack 30 = .ok (.return_, 1) := by decide +kernel
def wp_X0_forgetAll (Y : Nat → Nat → Nat) (a : AS) (Q : AS → Prop) : Prop := ∀ a_1 : AS, a_1 = (sI a.1 1 (0 : Int32), a.2) → Q a_1
set_option maxHeartbeats 4000000 in
set_option maxRecDepth 100000 in
theorem c_X0_forgetAll (l : Launch) (D : va_G) (cI cZ cW : ClassId) (q0 : Nat → Nat) (Y : Nat → Nat → Nat) (sz : Nat) (a : AS) (Q : AS → Prop) (hf : wp_X0_forgetAll Y a Q) : Met l yX0_forgetAll (wsA yX0_forgetAll cX0_forgetAll 1 none) ({ frames := 0, cells := 0, slots := 0, locals := 0 }) (PW D cI cZ cW [.ref (q0 0)] (wA cI cZ cW q0 Y a) sz) (va_Qv (fun (u : AS) => Q u) (fun u t => va_P D classes (wA cI cZ cW q0 Y u) t.heap) (va_A (wA cI cZ cW q0 Y a) sz)) 0 0 (va_A (wA cI cZ cW q0 Y a) sz) := by
  refine Met.ofW (cc := cX0_forgetAll) (maxL := 1) (ret := none) (by decide) rfl ?_
  intro p e s m args below meth c s₁ B hml hv
  obtain ⟨rfl, hsz, hP, hK, hD0⟩ := hv
  have hx := B.exec
  have hb := B.bytes
  have hr := B.returns
  have hts := atoms_spec (ws := (wsA yX0_forgetAll cX0_forgetAll 1 none)) B.pre
  have ht : ∀ w ∈ lw_g, w.before _ s = true := fun w h => hts w (List.mem_cons_of_mem _ h)
  have hown : s.vm.findClass RX0 = some m.cls := findClass_of_methodNamed B.named
  have hlocks := B.notSynchronized
  subst hsz
  have hD := hD0.self (sz := s.heap.size)
  generalize hAe : va_A (wA cI cZ cW q0 Y a) s.heap.size = A at hD ⊢
  have hA : ∀ q : Nat, s.heap.size ≤ q → A q := fun q h => by rw [← hAe]; exact Or.inr h
  have hS : va_S A s.heap s.heap [] := va_S.rf
  have hDk : ∀ (x : AS), va_D A (wA cI cZ cW q0 Y x) := fun x => D_A hD
  have hl := lv_entry ([.ref (q0 0)]) (n := 1) (Nat.le_of_ble_eq_true rfl)
  rw [lg_entry_eq]
  generalize (lg_sl ([.ref (q0 0)]) ++ List.replicate (1 - (lg_sl ([.ref (q0 0)])).length) Slot.unset).toArray = ls at hl ⊢
  have hl : lv_has ls 1 [(0, .ref (q0 0))] := hl
  unfold wp_X0_forgetAll at hf
  have start : ∀ (H : Heap) (locs : List Loc), va_P D classes (wA cI cZ cW q0 Y a) H → va_D A (wA cI cZ cW q0 Y a) → va_S A s.heap H locs → W p l e (headSpec (wsA yX0_forgetAll cX0_forgetAll 1 none) ({ frames := 0, cells := 0, slots := 0, locals := 0 })).room s m (#[.ref (q0 0)] : Array Value) below meth c H locs 0 0 (MQ below (va_Qv (fun (u : AS) => Q u) (fun u t => va_P D classes (wA cI cZ cW q0 Y u) t.heap) A) (#[.ref (q0 0)] : Array Value) s 0 0 A) (F0 m 0 ls []) := by
    intro H locs hP hD hS
    refine lv_aload_n hx hb dX0_forgetAll_0 rfl (lv_at hl 0 rfl) ?_
    refine lv_iconst (v := (0 : Int32)) hx hb dX0_forgetAll_1 (by decide) ?_
    refine va_put (D := D) (ci := 0) (v := .int (0 : Int32)) (ty := .int) (C := RX0) (T := TX0) (N := 2) hx hb ht inX0 tyX0 tyX0_ok nmX0 hown hK hP hD hS 0 eA_o rfl 1 (by decide) (ht _ tw_125) (fun _ h9 => h9) rfl pf_I rfl rfl (Nat.le_of_ble_eq_true rfl) dX0_forgetAll_2 (fun H locs hP hD hS => ?_)
    obtain ⟨a_1, ea_1⟩ : ∃ y : AS, y = (sI a.1 1 (0 : Int32), a.2) := ⟨_, rfl⟩
    have hf := hf a_1 ea_1
    have hP : va_P D classes (wA cI cZ cW q0 Y a_1) H := by rw [ea_1]; exact PA_I1 hP
    have hD := hDk a_1
    exact W.vret hx hb hr (fun t ht hW => ⟨⟨a_1, rfl, hf, P_heap ht hP⟩, hS.F ht⟩) hS.2.2 dX0_forgetAll_5
  exact start s.heap [] hP hD hS
def B_X0_wheelAt_19 (Y : Nat → Nat → Nat) (a : AS) (Q : Option Nat → Prop) : Prop := Q none
def wp_X0_wheelAt (p0 : Int32) (Y : Nat → Nat → Nat) (a : AS) (Q : Option Nat → Prop) : Prop := ((p0 < 0 → B_X0_wheelAt_19 Y a  Q) ∧ (¬ p0 < 0 → (((14 : Int32) ≤ p0 → B_X0_wheelAt_19 Y a  Q) ∧ (¬ (14 : Int32) ≤ p0 → vp_in p0 14 ∧ ∃ k_4 : Nat, a.2.1 p0.toNatClampNeg = some (Y k_4 0) ∧ Q (some (Y k_4 0))))))
set_option maxHeartbeats 4000000 in
set_option maxRecDepth 100000 in
theorem c_X0_wheelAt (l : Launch) (D : va_G) (cI cZ cW : ClassId) (q0 : Nat → Nat) (Y : Nat → Nat → Nat) (p0 : Int32) (a : AS) (Q : Option Nat → Prop) (hf : wp_X0_wheelAt p0 Y a Q) : Met l yX0_wheelAt (wsA yX0_wheelAt cX0_wheelAt 2 (some (.object "LetHoles$Wheel"))) ({ frames := 0, cells := 0, slots := 0, locals := 0 }) (PR D cI cZ cW [.ref (q0 0), .int p0] (wA cI cZ cW q0 Y a)) (va_Sq Q) 0 0 (fun _ => False) := by
  refine Met.ofW (cc := cX0_wheelAt) (maxL := 2) (ret := (some (.object "LetHoles$Wheel"))) (by decide) rfl ?_
  intro p e s m args below meth c s₁ B hml hv
  obtain ⟨rfl, hP, hK⟩ := hv
  have hx := B.exec
  have hb := B.bytes
  have hr := B.returns
  have hts := atoms_spec (ws := (wsA yX0_wheelAt cX0_wheelAt 2 (some (.object "LetHoles$Wheel")))) B.pre
  have ht : ∀ w ∈ lw_g, w.before _ s = true := fun w h => hts w (List.mem_cons_of_mem _ h)
  have hown : s.vm.findClass RX0 = some m.cls := findClass_of_methodNamed B.named
  have hlocks := B.notSynchronized
  have hl := lv_entry ([.ref (q0 0), .int p0]) (n := 2) (Nat.le_of_ble_eq_true rfl)
  rw [lg_entry_eq]
  generalize (lg_sl ([.ref (q0 0), .int p0]) ++ List.replicate (2 - (lg_sl ([.ref (q0 0), .int p0])).length) Slot.unset).toArray = ls at hl ⊢
  have hl : lv_has ls 2 [(0, .ref (q0 0)), (1, .int p0)] := hl
  unfold wp_X0_wheelAt at hf
  have k_19 : ∀  (ls : Array Slot), B_X0_wheelAt_19 Y a  Q → lv_has ls 2 [] → W p l e (headSpec (wsA yX0_wheelAt cX0_wheelAt 2 (some (.object "LetHoles$Wheel"))) ({ frames := 0, cells := 0, slots := 0, locals := 0 })).room s m (#[.ref (q0 0), .int p0] : Array Value) below meth c s.heap [] 0 0 (MQ below (va_Sq Q) (#[.ref (q0 0), .int p0] : Array Value) s 0 0 (fun _ => False)) (F0 m 19 ls []) := by
    intro  ls hf hl
    unfold B_X0_wheelAt_19 at hf
    refine lv_null hx hb dX0_wheelAt_19 ?_
    exact W.aret (v := .null) hx hb hr (Or.inl ⟨_, rfl⟩) (Or.inl rfl) (fun t ht hW => ⟨none, rfl, hf, ht⟩) (fun q h => absurd h List.not_mem_nil) dX0_wheelAt_20
  refine lv_iload_n hx hb dX0_wheelAt_0 rfl (lv_at hl 1 rfl) ?_
  refine lv_if_lt (tgt := 19) hx hb dX0_wheelAt_1 (by decide) (fun c_1 => ?_) (fun c_1 => ?_)
  · have hf := hf.1 c_1
    exact k_19  ls hf (lv_sub hl [] rfl)
  · have hf := hf.2 c_1
    refine lv_iload_n hx hb dX0_wheelAt_4 rfl (lv_at hl 1 rfl) ?_
    refine lv_bipush (v := (14 : Int32)) hx hb dX0_wheelAt_5 (by decide) ?_
    refine lv_icmp_ge (tgt := 19) hx hb dX0_wheelAt_7 (by decide) (fun c_2 => ?_) (fun c_2 => ?_)
    · have hf := hf.1 c_2
      exact k_19  ls hf (lv_sub hl [] rfl)
    · have hf := hf.2 c_2
      refine lv_aload_n hx hb dX0_wheelAt_10 rfl (lv_at hl 0 rfl) ?_
      refine va_get (D := D) (ci := 0) (v := .ref (q0 1)) (C := RX0) (T := TX0) (N := 2) hx hb ht inX0 hown hK hP 0 eA_o rfl 0 (by decide) (ht _ tw_124) (fun _ h9 => h9) rfl dX0_wheelAt_11 ?_
      refine lv_iload_n hx hb dX0_wheelAt_14 rfl (lv_at hl 1 rfl) ?_
      obtain ⟨hi_3, k_4, hk_4, hf⟩ := hf
      refine va_aldq hx hb hK hP 1 2 eA_r rfl hi_3 dX0_wheelAt_15 ?_
      rw [hk_4]
      refine W.eq (g2 := F0 m 16 ls [.ref (Y k_4 0)]) rfl ?_
      refine lv_goto (tgt := 20) hx hb dX0_wheelAt_16 (by decide) ?_
      exact W.aret (v := (.ref (Y k_4 0))) hx hb hr (Or.inl ⟨_, rfl⟩) (Or.inr ⟨_, rfl⟩) (fun t ht hW => ⟨(some (Y k_4 0)), rfl, hf, ht⟩) (fun q h => absurd h List.not_mem_nil) dX0_wheelAt_20
def LB_X0_forgetFirst_9 (G9 : (Nat × Int32 × AS) → Prop) (Y : Nat → Nat → Nat) (x1 : Nat) (x2 : Int32) (a : AS) (Q : AS → Prop) : Prop := (((14 : Int32) ≤ x2 → vp_in (13 : Int32) 14 ∧ x1 < 14 ∧ ∀ a_4 : AS, a_4 = (a.1, va_up a.2.1 (13 : Int32).toNatClampNeg (some (Y x1 0)), a.2.2) → ∀ a_5 : AS, a_5 = (sI a_4.1 1 (13 : Int32), a_4.2) → Q a_5) ∧ (¬ (14 : Int32) ≤ x2 → vp_in x2 14 ∧ ∃ k_7 : Nat, a.2.1 x2.toNatClampNeg = some (Y k_7 0) ∧ vp_in (x2 - (1 : Int32)) 14 ∧ k_7 < 14 ∧ ∀ a_10 : AS, a_10 = (a.1, va_up a.2.1 (x2 - (1 : Int32)).toNatClampNeg (some (Y k_7 0)), a.2.2) → ∀ x2_11 : Int32, x2_11 = x2 + (1 : Int32) → G9 (x1, x2_11, a_10)))
def B_X0_forgetFirst_9 (Y : Nat → Nat → Nat) (x1 : Nat) (x2 : Int32) (a : AS) (Q : AS → Prop) : Prop := LOOP (fun (G9 : (Nat × Int32 × AS) → Prop) z => LB_X0_forgetFirst_9 G9 Y z.1 z.2.1 z.2.2 Q) (x1, x2, a)
def wp_X0_forgetFirst (Y : Nat → Nat → Nat) (a : AS) (Q : AS → Prop) : Prop := vp_in (0 : Int32) 14 ∧ ∃ k_13 : Nat, a.2.1 (0 : Int32).toNatClampNeg = some (Y k_13 0) ∧ B_X0_forgetFirst_9 Y k_13 (1 : Int32) a Q
set_option maxHeartbeats 4000000 in
set_option maxRecDepth 100000 in
theorem c_X0_forgetFirst (l : Launch) (D : va_G) (cI cZ cW : ClassId) (q0 : Nat → Nat) (Y : Nat → Nat → Nat) (sz : Nat) (a : AS) (Q : AS → Prop) (hf : wp_X0_forgetFirst Y a Q) : Met l yX0_forgetFirst (wsA yX0_forgetFirst cX0_forgetFirst 3 none) ({ frames := 0, cells := 0, slots := 0, locals := 0 }) (PW D cI cZ cW [.ref (q0 0)] (wA cI cZ cW q0 Y a) sz) (va_Qv (fun (u : AS) => Q u) (fun u t => va_P D classes (wA cI cZ cW q0 Y u) t.heap) (va_A (wA cI cZ cW q0 Y a) sz)) 0 0 (va_A (wA cI cZ cW q0 Y a) sz) := by
  refine Met.ofW (cc := cX0_forgetFirst) (maxL := 3) (ret := none) (by decide) rfl ?_
  intro p e s m args below meth c s₁ B hml hv
  obtain ⟨rfl, hsz, hP, hK, hD0⟩ := hv
  have hx := B.exec
  have hb := B.bytes
  have hr := B.returns
  have hts := atoms_spec (ws := (wsA yX0_forgetFirst cX0_forgetFirst 3 none)) B.pre
  have ht : ∀ w ∈ lw_g, w.before _ s = true := fun w h => hts w (List.mem_cons_of_mem _ h)
  have hown : s.vm.findClass RX0 = some m.cls := findClass_of_methodNamed B.named
  have hlocks := B.notSynchronized
  subst hsz
  have hD := hD0.self (sz := s.heap.size)
  generalize hAe : va_A (wA cI cZ cW q0 Y a) s.heap.size = A at hD ⊢
  have hA : ∀ q : Nat, s.heap.size ≤ q → A q := fun q h => by rw [← hAe]; exact Or.inr h
  have hS : va_S A s.heap s.heap [] := va_S.rf
  have hDk : ∀ (x : AS), va_D A (wA cI cZ cW q0 Y x) := fun x => D_A hD
  have hl := lv_entry ([.ref (q0 0)]) (n := 3) (Nat.le_of_ble_eq_true rfl)
  rw [lg_entry_eq]
  generalize (lg_sl ([.ref (q0 0)]) ++ List.replicate (3 - (lg_sl ([.ref (q0 0)])).length) Slot.unset).toArray = ls at hl ⊢
  have hl : lv_has ls 3 [(0, .ref (q0 0))] := hl
  unfold wp_X0_forgetFirst at hf
  have k_9 : ∀ (x1 : Nat) (x2 : Int32) (a : AS) (H : Heap) (locs : List Loc) (ls : Array Slot), B_X0_forgetFirst_9 Y x1 x2 a Q → va_P D classes (wA cI cZ cW q0 Y a) H → va_D A (wA cI cZ cW q0 Y a) → va_S A s.heap H locs → lv_has ls 3 [(0, .ref (q0 0)), (1, .ref (Y x1 0)), (2, .int x2)] → W p l e (headSpec (wsA yX0_forgetFirst cX0_forgetFirst 3 none) ({ frames := 0, cells := 0, slots := 0, locals := 0 })).room s m (#[.ref (q0 0)] : Array Value) below meth c H locs 0 0 (MQ below (va_Qv (fun (u : AS) => Q u) (fun u t => va_P D classes (wA cI cZ cW q0 Y u) t.heap) A) (#[.ref (q0 0)] : Array Value) s 0 0 A) (F0 m 9 ls []) := by
    intro x1 x2 a H locs ls hf hP hD hS hl
    unfold B_X0_forgetFirst_9 at hf
    obtain ⟨I_9, ⟨n0_9, hI0_9⟩, hst_9⟩ := hf
    have main_9 : ∀ (n : Nat) (x1 : Nat) (x2 : Int32) (a : AS) (H : Heap) (locs : List Loc) (ls : Array Slot), I_9 n (x1, x2, a) → va_P D classes (wA cI cZ cW q0 Y a) H → va_D A (wA cI cZ cW q0 Y a) → va_S A s.heap H locs → lv_has ls 3 [(0, .ref (q0 0)), (1, .ref (Y x1 0)), (2, .int x2)] → W p l e (headSpec (wsA yX0_forgetFirst cX0_forgetFirst 3 none) ({ frames := 0, cells := 0, slots := 0, locals := 0 })).room s m (#[.ref (q0 0)] : Array Value) below meth c H locs 0 0 (MQ below (va_Qv (fun (u : AS) => Q u) (fun u t => va_P D classes (wA cI cZ cW q0 Y u) t.heap) A) (#[.ref (q0 0)] : Array Value) s 0 0 A) (F0 m 9 ls []) := by
      intro n
      induction n using Nat.strongRecOn with
      | _ n_9 ih_9 =>
      intro x1 x2 a H locs ls hI hP hD hS hl
      have hf : LB_X0_forgetFirst_9 (fun z => ∃ k, k < n_9 ∧ I_9 k z) Y x1 x2 a Q := hst_9 n_9 (x1, x2, a) hI
      have hG_9 : ∀ (x1 : Nat) (x2 : Int32) (a : AS) (H : Heap) (locs : List Loc) (ls : Array Slot), (∃ k, k < n_9 ∧ I_9 k (x1, x2, a)) → va_P D classes (wA cI cZ cW q0 Y a) H → va_D A (wA cI cZ cW q0 Y a) → va_S A s.heap H locs → lv_has ls 3 [(0, .ref (q0 0)), (1, .ref (Y x1 0)), (2, .int x2)] → W p l e (headSpec (wsA yX0_forgetFirst cX0_forgetFirst 3 none) ({ frames := 0, cells := 0, slots := 0, locals := 0 })).room s m (#[.ref (q0 0)] : Array Value) below meth c H locs 0 0 (MQ below (va_Qv (fun (u : AS) => Q u) (fun u t => va_P D classes (wA cI cZ cW q0 Y u) t.heap) A) (#[.ref (q0 0)] : Array Value) s 0 0 A) (F0 m 9 ls []) := by
        rintro x1 x2 a H locs ls ⟨k, hk, hI⟩ hP hD hS hl
        exact ih_9 k hk x1 x2 a H locs ls hI hP hD hS hl
      unfold LB_X0_forgetFirst_9 at hf
      refine lv_iload_n hx hb dX0_forgetFirst_9 rfl (lv_at hl 2 rfl) ?_
      refine lv_bipush (v := (14 : Int32)) hx hb dX0_forgetFirst_10 (by decide) ?_
      refine lv_icmp_ge (tgt := 35) hx hb dX0_forgetFirst_12 (by decide) (fun c_1 => ?_) (fun c_1 => ?_)
      · have hf := hf.1 c_1
        refine lv_aload_n hx hb dX0_forgetFirst_35 rfl (lv_at hl 0 rfl) ?_
        refine va_get (D := D) (ci := 0) (v := .ref (q0 1)) (C := RX0) (T := TX0) (N := 2) hx hb ht inX0 hown hK hP 0 eA_o rfl 0 (by decide) (ht _ tw_124) (fun _ h9 => h9) rfl dX0_forgetFirst_36 ?_
        refine lv_bipush (v := (13 : Int32)) hx hb dX0_forgetFirst_39 (by decide) ?_
        refine lv_aload_n hx hb dX0_forgetFirst_41 rfl (lv_at hl 1 rfl) ?_
        obtain ⟨hi_2, hk_3, hf⟩ := hf
        refine va_astq hx hb hK hP hD hS 1 2 (2 + 5 * x1) 3 eA_r rfl (eA_w hk_3) rfl hi_2 dX0_forgetFirst_42 (fun H locs hP hD hS => ?_)
        obtain ⟨a_4, ea_4⟩ : ∃ y : AS, y = (a.1, va_up a.2.1 (13 : Int32).toNatClampNeg (some (Y x1 0)), a.2.2) := ⟨_, rfl⟩
        have hf := hf a_4 ea_4
        have hP : va_P D classes (wA cI cZ cW q0 Y a_4) H := by rw [ea_4]; exact PA_R hP
        have hD := hDk a_4
        refine lv_aload_n hx hb dX0_forgetFirst_43 rfl (lv_at hl 0 rfl) ?_
        refine lv_bipush (v := (13 : Int32)) hx hb dX0_forgetFirst_44 (by decide) ?_
        refine va_put (D := D) (ci := 0) (v := .int (13 : Int32)) (ty := .int) (C := RX0) (T := TX0) (N := 2) hx hb ht inX0 tyX0 tyX0_ok nmX0 hown hK hP hD hS 0 eA_o rfl 1 (by decide) (ht _ tw_125) (fun _ h9 => h9) rfl pf_I rfl rfl (Nat.le_of_ble_eq_true rfl) dX0_forgetFirst_46 (fun H locs hP hD hS => ?_)
        obtain ⟨a_5, ea_5⟩ : ∃ y : AS, y = (sI a_4.1 1 (13 : Int32), a_4.2) := ⟨_, rfl⟩
        have hf := hf a_5 ea_5
        have hP : va_P D classes (wA cI cZ cW q0 Y a_5) H := by rw [ea_5]; exact PA_I1 hP
        have hD := hDk a_5
        exact W.vret hx hb hr (fun t ht hW => ⟨⟨a_5, rfl, hf, P_heap ht hP⟩, hS.F ht⟩) hS.2.2 dX0_forgetFirst_49
      · have hf := hf.2 c_1
        refine lv_aload_n hx hb dX0_forgetFirst_15 rfl (lv_at hl 0 rfl) ?_
        refine va_get (D := D) (ci := 0) (v := .ref (q0 1)) (C := RX0) (T := TX0) (N := 2) hx hb ht inX0 hown hK hP 0 eA_o rfl 0 (by decide) (ht _ tw_124) (fun _ h9 => h9) rfl dX0_forgetFirst_16 ?_
        refine lv_iload_n hx hb dX0_forgetFirst_19 rfl (lv_at hl 2 rfl) ?_
        refine lv_iconst (v := (1 : Int32)) hx hb dX0_forgetFirst_20 (by decide) ?_
        refine lv_isub hx hb dX0_forgetFirst_21 ?_
        refine lv_aload_n hx hb dX0_forgetFirst_22 rfl (lv_at hl 0 rfl) ?_
        refine va_get (D := D) (ci := 0) (v := .ref (q0 1)) (C := RX0) (T := TX0) (N := 2) hx hb ht inX0 hown hK hP 0 eA_o rfl 0 (by decide) (ht _ tw_124) (fun _ h9 => h9) rfl dX0_forgetFirst_23 ?_
        refine lv_iload_n hx hb dX0_forgetFirst_26 rfl (lv_at hl 2 rfl) ?_
        obtain ⟨hi_6, k_7, hk_7, hf⟩ := hf
        refine va_aldq hx hb hK hP 1 2 eA_r rfl hi_6 dX0_forgetFirst_27 ?_
        rw [hk_7]
        refine W.eq (g2 := F0 m 28 ls [.ref (Y k_7 0), .int (x2 - (1 : Int32)), .ref (q0 1)]) rfl ?_
        obtain ⟨hi_8, hk_9, hf⟩ := hf
        refine va_astq hx hb hK hP hD hS 1 2 (2 + 5 * k_7) 3 eA_r rfl (eA_w hk_9) rfl hi_8 dX0_forgetFirst_28 (fun H locs hP hD hS => ?_)
        obtain ⟨a_10, ea_10⟩ : ∃ y : AS, y = (a.1, va_up a.2.1 (x2 - (1 : Int32)).toNatClampNeg (some (Y k_7 0)), a.2.2) := ⟨_, rfl⟩
        have hf := hf a_10 ea_10
        have hP : va_P D classes (wA cI cZ cW q0 Y a_10) H := by rw [ea_10]; exact PA_R hP
        have hD := hDk a_10
        obtain ⟨x2_11, ex2_11⟩ : ∃ y : Int32, y = x2 + (1 : Int32) := ⟨_, rfl⟩
        have hf := hf x2_11 ex2_11
        refine lv_iinc (v := x2_11) (lv' := [(2, .int x2_11), (0, .ref (q0 0)), (1, .ref (Y x1 0))]) hx hb dX0_forgetFirst_29 hl (k := 2) rfl (by rw [ex2_11]; rfl) (by decide) rfl (fun ls hl => ?_)
        refine lv_goto (tgt := 9) hx hb dX0_forgetFirst_32 (by decide) ?_
        exact hG_9 x1 x2_11 a_10 H locs ls hf hP hD hS (lv_sub hl [1, 2, 0] rfl)
    exact main_9 n0_9 x1 x2 a H locs ls hI0_9 hP hD hS hl
  have start : ∀ (H : Heap) (locs : List Loc), va_P D classes (wA cI cZ cW q0 Y a) H → va_D A (wA cI cZ cW q0 Y a) → va_S A s.heap H locs → W p l e (headSpec (wsA yX0_forgetFirst cX0_forgetFirst 3 none) ({ frames := 0, cells := 0, slots := 0, locals := 0 })).room s m (#[.ref (q0 0)] : Array Value) below meth c H locs 0 0 (MQ below (va_Qv (fun (u : AS) => Q u) (fun u t => va_P D classes (wA cI cZ cW q0 Y u) t.heap) A) (#[.ref (q0 0)] : Array Value) s 0 0 A) (F0 m 0 ls []) := by
    intro H locs hP hD hS
    refine lv_aload_n hx hb dX0_forgetFirst_0 rfl (lv_at hl 0 rfl) ?_
    refine va_get (D := D) (ci := 0) (v := .ref (q0 1)) (C := RX0) (T := TX0) (N := 2) hx hb ht inX0 hown hK hP 0 eA_o rfl 0 (by decide) (ht _ tw_124) (fun _ h9 => h9) rfl dX0_forgetFirst_1 ?_
    refine lv_iconst (v := (0 : Int32)) hx hb dX0_forgetFirst_4 (by decide) ?_
    obtain ⟨hi_12, k_13, hk_13, hf⟩ := hf
    refine va_aldq hx hb hK hP 1 2 eA_r rfl hi_12 dX0_forgetFirst_5 ?_
    rw [hk_13]
    refine W.eq (g2 := F0 m 6 ls [.ref (Y k_13 0)]) rfl ?_
    refine lv_astore_n (lv' := [(1, .ref (Y k_13 0)), (0, .ref (q0 0))]) hx hb dX0_forgetFirst_6 rfl hl (by decide) rfl (fun ls hl => ?_)
    refine lv_iconst (v := (1 : Int32)) hx hb dX0_forgetFirst_7 (by decide) ?_
    refine lv_istore_n (lv' := [(2, .int (1 : Int32)), (1, .ref (Y k_13 0)), (0, .ref (q0 0))]) hx hb dX0_forgetFirst_8 rfl hl (by decide) rfl (fun ls hl => ?_)
    exact k_9 k_13 (1 : Int32) a H locs ls hf hP hD hS (lv_sub hl [2, 1, 0] rfl)
  exact start s.heap [] hP hD hS
def B_X0_remember_13 (Y : Nat → Nat → Nat) (a : AS) (s1 : CS) (Q : AS → CS → Prop) : Prop := wp_X0_wheelAt (a.1.1 1) Y a (fun r_1 => (r_1 = none ∧ Q a s1) ∨ (∃ k_2 : Nat, r_1 = some (Y k_2 0) ∧ k_2 < 14 ∧ wp_X5_copyFrom (a.2.2 k_2) s1 (fun s_4 s_5 => ∀ a_6 : AS, a_6 = (a.1, a.2.1, va_up a.2.2 k_2 s_4) → ∀ a_7 : AS, a_7 = (sI a_6.1 1 ((a_6.1.1 1) + (1 : Int32)), a_6.2) → Q a_7 s_5)))
def wp_X0_remember (Y : Nat → Nat → Nat) (a : AS) (s1 : CS) (Q : AS → CS → Prop) : Prop := (((a.1.1 1) < (14 : Int32) → B_X0_remember_13 Y a s1 Q) ∧ (¬ (a.1.1 1) < (14 : Int32) → wp_X0_forgetFirst Y a (fun a_9 => B_X0_remember_13 Y a_9 s1 Q)))
set_option maxHeartbeats 4000000 in
set_option maxRecDepth 100000 in
theorem c_X0_remember (l : Launch) (D : va_G) (cI cZ cW : ClassId) (q0 : Nat → Nat) (q1 : Nat → Nat) (Y : Nat → Nat → Nat) (sz : Nat) (a : AS) (s1 : CS) (Q : AS → CS → Prop) (hf : wp_X0_remember Y a s1 Q) : Met l yX0_remember (wsA yX0_remember cX0_remember 3 none) ({ frames := 2, cells := 0, slots := 0, locals := 61 }) (PW D cI cZ cW [.ref (q0 0), .ref (q1 0)] (AW cI cZ cW q0 q1 Y a s1) sz) (va_Qv (fun (u : AS × CS) => Q u.1 u.2) (fun u t => va_P D classes (AW cI cZ cW q0 q1 Y u.1 u.2) t.heap) (va_A (AW cI cZ cW q0 q1 Y a s1) sz)) 0 0 (va_A (AW cI cZ cW q0 q1 Y a s1) sz) := by
  refine Met.ofW (cc := cX0_remember) (maxL := 3) (ret := none) (by decide) rfl ?_
  intro p e s m args below meth c s₁ B hml hv
  obtain ⟨rfl, hsz, hP, hK, hD0⟩ := hv
  have hx := B.exec
  have hb := B.bytes
  have hr := B.returns
  have hts := atoms_spec (ws := (wsA yX0_remember cX0_remember 3 none)) B.pre
  have ht : ∀ w ∈ lw_g, w.before _ s = true := fun w h => hts w (List.mem_cons_of_mem _ h)
  have hown : s.vm.findClass RX0 = some m.cls := findClass_of_methodNamed B.named
  have hlocks := B.notSynchronized
  subst hsz
  have hD := hD0.self (sz := s.heap.size)
  generalize hAe : va_A (AW cI cZ cW q0 q1 Y a s1) s.heap.size = A at hD ⊢
  have hA : ∀ q : Nat, s.heap.size ≤ q → A q := fun q h => by rw [← hAe]; exact Or.inr h
  have hS : va_S A s.heap s.heap [] := va_S.rf
  have hDk : ∀ (x : AS) (y : CS), va_D A (AW cI cZ cW q0 q1 Y x y) := fun x y => D_B hD
  have hl := lv_entry ([.ref (q0 0), .ref (q1 0)]) (n := 3) (Nat.le_of_ble_eq_true rfl)
  rw [lg_entry_eq]
  generalize (lg_sl ([.ref (q0 0), .ref (q1 0)]) ++ List.replicate (3 - (lg_sl ([.ref (q0 0), .ref (q1 0)])).length) Slot.unset).toArray = ls at hl ⊢
  have hl : lv_has ls 3 [(0, .ref (q0 0)), (1, .ref (q1 0))] := hl
  unfold wp_X0_remember at hf
  have k_13 : ∀ (a : AS) (s1 : CS) (H : Heap) (locs : List Loc) (ls : Array Slot), B_X0_remember_13 Y a s1 Q → va_P D classes (AW cI cZ cW q0 q1 Y a s1) H → va_D A (AW cI cZ cW q0 q1 Y a s1) → va_S A s.heap H locs → lv_has ls 3 [(0, .ref (q0 0)), (1, .ref (q1 0))] → W p l e (headSpec (wsA yX0_remember cX0_remember 3 none) ({ frames := 2, cells := 0, slots := 0, locals := 61 })).room s m (#[.ref (q0 0), .ref (q1 0)] : Array Value) below meth c H locs 0 0 (MQ below (va_Qv (fun (u : AS × CS) => Q u.1 u.2) (fun u t => va_P D classes (AW cI cZ cW q0 q1 Y u.1 u.2) t.heap) A) (#[.ref (q0 0), .ref (q1 0)] : Array Value) s 0 0 A) (F0 m 13 ls []) := by
    intro a s1 H locs ls hf hP hD hS hl
    unfold B_X0_remember_13 at hf
    refine lv_aload_n hx hb dX0_remember_13 rfl (lv_at hl 0 rfl) ?_
    refine lv_aload_n hx hb dX0_remember_14 rfl (lv_at hl 0 rfl) ?_
    refine va_get (D := D) (ci := 0) (v := .int (a.1.1 1)) (C := RX0) (T := TX0) (N := 2) hx hb ht inX0 hown hK hP 5 eB_o rfl 1 (by decide) (ht _ tw_125) (fun _ h9 => h9) rfl dX0_remember_15 ?_
    have hPc : va_P D classes (wA cI cZ cW q0 Y a) H := PB_s hP
    refine va_csq (W.runV (As := [.int (a.1.1 1)]) (rest := []) ⟨hx, hb, hml, hown, hts⟩ (c_X0_wheelAt l D cI cZ cW q0 Y (a.1.1 1) a _ hf) ⟨callB_of 1 hts (gA tw_358) rfl rfl rfl (ht _ tw_5) (ht _ tw_355) hd_X0_wheelAt ⟨Nat.le_of_ble_eq_true rfl, Nat.le_of_ble_eq_true rfl⟩, ht _ tw_357, ht _ twp_8⟩ ⟨PR_blind, va_recv hK hP (ci := 0) (q0 := 5) rfl eB_o, fun U hU hW => PR_mk hPc hK hU hW⟩ rfl rfl hl.1 rfl (lv_room (Nat.le_of_ble_eq_true rfl)) dX0_remember_18 ⟨Nat.zero_le _, Nat.zero_le _⟩) (fun r_1 hf => ?_)
    rcases hf with ⟨rfl, hf⟩ | ⟨k_2, rfl, hf⟩
    · refine W.eq (g2 := F0 m 21 ls [.null]) rfl ?_
      refine lv_astore_nN (lv' := [(2, .null), (0, .ref (q0 0)), (1, .ref (q1 0))]) hx hb dX0_remember_21 rfl hl (by decide) rfl (fun ls hl => ?_)
      refine lv_aload_nN hx hb dX0_remember_22 rfl (lv_at hl 0 rfl) ?_
      refine lv_ifnullN (tgt := 41) hx hb dX0_remember_23 (by decide) ?_
      exact W.vret hx hb hr (fun t ht hW => ⟨⟨(a, s1), rfl, hf, P_heap ht hP⟩, hS.F ht⟩) hS.2.2 dX0_remember_41
    · refine W.eq (g2 := F0 m 21 ls [.ref (Y k_2 0)]) rfl ?_
      refine lv_astore_n (lv' := [(2, .ref (Y k_2 0)), (0, .ref (q0 0)), (1, .ref (q1 0))]) hx hb dX0_remember_21 rfl hl (by decide) rfl (fun ls hl => ?_)
      refine lv_aload_n hx hb dX0_remember_22 rfl (lv_at hl 0 rfl) ?_
      refine lv_ifnull hx hb dX0_remember_23 ?_
      refine lv_aload_n hx hb dX0_remember_26 rfl (lv_at hl 0 rfl) ?_
      refine lv_aload_n hx hb dX0_remember_27 rfl (lv_at hl 2 rfl) ?_
      obtain ⟨hk_3, hf⟩ := hf
      have hPc : va_P D classes (wW cI cZ (Y k_2) (a.2.2 k_2) ++ wW cI cZ q1 s1) H := PB_fw hk_3 hP
      have hDc : va_D A (wW cI cZ (Y k_2) (a.2.2 k_2) ++ wW cI cZ q1 s1) := DB_fw hk_3 hD
      have hFc := va_freeX hDc hS hA
      refine va_callv (va_runV (As := [.ref (q1 0)]) (rest := []) ⟨hx, hb, hml, hown, hts⟩ (c_X5_copyFrom l D cI cZ cW (Y k_2) q1 H.size (a.2.2 k_2) s1 _ hf) ⟨callB_of 1 hts (gA tw_362) rfl rfl rfl (ht _ tw_4) (ht _ tw_359) hd_X5_copyFrom ⟨Nat.le_of_ble_eq_true rfl, Nat.le_of_ble_eq_true rfl⟩, ht _ tw_360, ht _ tw_361⟩ ⟨PW_blind, va_recv hK hP (ci := 3) (q0 := 7 + 5 * k_2) rfl (eB_w hk_3), fun U hU hW => PW_mk hPc hDc hK hU hW⟩ rfl rfl hl.1 rfl (lv_room (Nat.le_of_ble_eq_true rfl)) dX0_remember_28 ⟨Nat.zero_le _, Nat.zero_le _⟩) hS (fun q _ h => hFc q h) hFc (fun u t H1 locs ht1 hvm hf hB hz1 hk1 hS => ?_)
      obtain ⟨s_4, s_5⟩ := u
      dsimp only at hf hB
      rw [ht1] at hB
      have hP := JB_fw hk_3 hP hD hk1 hB
      generalize H1 = H at hP hS ⊢
      obtain ⟨a_6, ea_6⟩ : ∃ y : AS, y = (a.1, a.2.1, va_up a.2.2 k_2 s_4) := ⟨_, rfl⟩
      have hf := hf a_6 ea_6
      have hP : va_P D classes (AW cI cZ cW q0 q1 Y a_6 s_5) H := by rw [ea_6]; exact hP
      have hD := hDk a_6 s_5
      refine lv_aload_n hx hb dX0_remember_31 rfl (lv_at hl 1 rfl) ?_
      refine lv_dup hx hb dX0_remember_32 rfl ?_
      refine va_get (D := D) (ci := 0) (v := .int (a_6.1.1 1)) (C := RX0) (T := TX0) (N := 2) hx hb ht inX0 hown hK hP 5 eB_o rfl 1 (by decide) (ht _ tw_125) (fun _ h9 => h9) rfl dX0_remember_33 ?_
      refine lv_iconst (v := (1 : Int32)) hx hb dX0_remember_36 (by decide) ?_
      refine lv_iadd hx hb dX0_remember_37 ?_
      refine va_put (D := D) (ci := 0) (v := .int ((a_6.1.1 1) + (1 : Int32))) (ty := .int) (C := RX0) (T := TX0) (N := 2) hx hb ht inX0 tyX0 tyX0_ok nmX0 hown hK hP hD hS 5 eB_o rfl 1 (by decide) (ht _ tw_125) (fun _ h9 => h9) rfl pf_I rfl rfl (Nat.le_of_ble_eq_true rfl) dX0_remember_38 (fun H locs hP hD hS => ?_)
      obtain ⟨a_7, ea_7⟩ : ∃ y : AS, y = (sI a_6.1 1 ((a_6.1.1 1) + (1 : Int32)), a_6.2) := ⟨_, rfl⟩
      have hf := hf a_7 ea_7
      have hP : va_P D classes (AW cI cZ cW q0 q1 Y a_7 s_5) H := by rw [ea_7]; exact PB_I1 hP
      have hD := hDk a_7 s_5
      exact W.vret hx hb hr (fun t ht hW => ⟨⟨(a_7, s_5), rfl, hf, P_heap ht hP⟩, hS.F ht⟩) hS.2.2 dX0_remember_41
  have start : ∀ (H : Heap) (locs : List Loc), va_P D classes (AW cI cZ cW q0 q1 Y a s1) H → va_D A (AW cI cZ cW q0 q1 Y a s1) → va_S A s.heap H locs → W p l e (headSpec (wsA yX0_remember cX0_remember 3 none) ({ frames := 2, cells := 0, slots := 0, locals := 61 })).room s m (#[.ref (q0 0), .ref (q1 0)] : Array Value) below meth c H locs 0 0 (MQ below (va_Qv (fun (u : AS × CS) => Q u.1 u.2) (fun u t => va_P D classes (AW cI cZ cW q0 q1 Y u.1 u.2) t.heap) A) (#[.ref (q0 0), .ref (q1 0)] : Array Value) s 0 0 A) (F0 m 0 ls []) := by
    intro H locs hP hD hS
    refine lv_aload_n hx hb dX0_remember_0 rfl (lv_at hl 0 rfl) ?_
    refine va_get (D := D) (ci := 0) (v := .int (a.1.1 1)) (C := RX0) (T := TX0) (N := 2) hx hb ht inX0 hown hK hP 5 eB_o rfl 1 (by decide) (ht _ tw_125) (fun _ h9 => h9) rfl dX0_remember_1 ?_
    refine lv_bipush (v := (14 : Int32)) hx hb dX0_remember_4 (by decide) ?_
    refine lv_icmp_lt (tgt := 13) hx hb dX0_remember_6 (by decide) (fun c_8 => ?_) (fun c_8 => ?_)
    · have hf := hf.1 c_8
      exact k_13 a s1 H locs ls hf hP hD hS (lv_sub hl [0, 1] rfl)
    · have hf := hf.2 c_8
      refine lv_aload_n hx hb dX0_remember_9 rfl (lv_at hl 0 rfl) ?_
      have hPc : va_P D classes (wA cI cZ cW q0 Y a) H := PB_s hP
      have hDc : va_D A (wA cI cZ cW q0 Y a) := D_Bs hD
      have hFc := va_freeX hDc hS hA
      refine va_callv (va_runV (As := []) (rest := []) ⟨hx, hb, hml, hown, hts⟩ (c_X0_forgetFirst l D cI cZ cW q0 Y H.size a _ hf) ⟨callB_of 0 hts (gA tw_354) rfl rfl rfl (ht _ tw_5) (ht _ tw_351) hd_X0_forgetFirst ⟨Nat.le_of_ble_eq_true rfl, Nat.le_of_ble_eq_true rfl⟩, ht _ tw_353, ht _ twp_7⟩ ⟨PW_blind, va_recv hK hP (ci := 0) (q0 := 5) rfl eB_o, fun U hU hW => PW_mk hPc hDc hK hU hW⟩ rfl rfl hl.1 rfl (lv_room (Nat.le_of_ble_eq_true rfl)) dX0_remember_10 ⟨Nat.zero_le _, Nat.zero_le _⟩) hS (fun q _ h => hFc q h) hFc (fun u t H1 locs ht1 hvm hf hB hz1 hk1 hS => ?_)
      obtain ⟨a_9, rfl⟩ : ∃ z, z = u := ⟨_, rfl⟩
      rw [ht1] at hB
      have hP := JB_s hP hD hk1 hB
      generalize H1 = H at hP hS ⊢
      have hD := hDk a_9 s1
      exact k_13 a_9 s1 H locs ls hf hP hD hS (lv_sub hl [0, 1] rfl)
  exact start s.heap [] hP hD hS
def wp_X0_takeBack (Y : Nat → Nat → Nat) (a : AS) (s1 : CS) (Q : AS → CS → Prop) : Prop := wp_X0_wheelAt ((a.1.1 1) - (1 : Int32)) Y a (fun r_1 => (r_1 = none ∧ Q a s1) ∨ (∃ k_2 : Nat, r_1 = some (Y k_2 0) ∧ k_2 < 14 ∧ wp_X5_copyFrom s1 (a.2.2 k_2) (fun s_4 s_5 => ∀ a_6 : AS, a_6 = (a.1, a.2.1, va_up a.2.2 k_2 s_5) → ∀ a_7 : AS, a_7 = (sI a_6.1 1 ((a_6.1.1 1) - (1 : Int32)), a_6.2) → Q a_7 s_4)))
set_option maxHeartbeats 4000000 in
set_option maxRecDepth 100000 in
theorem c_X0_takeBack (l : Launch) (D : va_G) (cI cZ cW : ClassId) (q0 : Nat → Nat) (q1 : Nat → Nat) (Y : Nat → Nat → Nat) (sz : Nat) (a : AS) (s1 : CS) (Q : AS → CS → Prop) (hf : wp_X0_takeBack Y a s1 Q) : Met l yX0_takeBack (wsA yX0_takeBack cX0_takeBack 3 none) ({ frames := 2, cells := 0, slots := 0, locals := 61 }) (PW D cI cZ cW [.ref (q0 0), .ref (q1 0)] (AW cI cZ cW q0 q1 Y a s1) sz) (va_Qv (fun (u : AS × CS) => Q u.1 u.2) (fun u t => va_P D classes (AW cI cZ cW q0 q1 Y u.1 u.2) t.heap) (va_A (AW cI cZ cW q0 q1 Y a s1) sz)) 0 0 (va_A (AW cI cZ cW q0 q1 Y a s1) sz) := by
  refine Met.ofW (cc := cX0_takeBack) (maxL := 3) (ret := none) (by decide) rfl ?_
  intro p e s m args below meth c s₁ B hml hv
  obtain ⟨rfl, hsz, hP, hK, hD0⟩ := hv
  have hx := B.exec
  have hb := B.bytes
  have hr := B.returns
  have hts := atoms_spec (ws := (wsA yX0_takeBack cX0_takeBack 3 none)) B.pre
  have ht : ∀ w ∈ lw_g, w.before _ s = true := fun w h => hts w (List.mem_cons_of_mem _ h)
  have hown : s.vm.findClass RX0 = some m.cls := findClass_of_methodNamed B.named
  have hlocks := B.notSynchronized
  subst hsz
  have hD := hD0.self (sz := s.heap.size)
  generalize hAe : va_A (AW cI cZ cW q0 q1 Y a s1) s.heap.size = A at hD ⊢
  have hA : ∀ q : Nat, s.heap.size ≤ q → A q := fun q h => by rw [← hAe]; exact Or.inr h
  have hS : va_S A s.heap s.heap [] := va_S.rf
  have hDk : ∀ (x : AS) (y : CS), va_D A (AW cI cZ cW q0 q1 Y x y) := fun x y => D_B hD
  have hl := lv_entry ([.ref (q0 0), .ref (q1 0)]) (n := 3) (Nat.le_of_ble_eq_true rfl)
  rw [lg_entry_eq]
  generalize (lg_sl ([.ref (q0 0), .ref (q1 0)]) ++ List.replicate (3 - (lg_sl ([.ref (q0 0), .ref (q1 0)])).length) Slot.unset).toArray = ls at hl ⊢
  have hl : lv_has ls 3 [(0, .ref (q0 0)), (1, .ref (q1 0))] := hl
  unfold wp_X0_takeBack at hf
  have start : ∀ (H : Heap) (locs : List Loc), va_P D classes (AW cI cZ cW q0 q1 Y a s1) H → va_D A (AW cI cZ cW q0 q1 Y a s1) → va_S A s.heap H locs → W p l e (headSpec (wsA yX0_takeBack cX0_takeBack 3 none) ({ frames := 2, cells := 0, slots := 0, locals := 61 })).room s m (#[.ref (q0 0), .ref (q1 0)] : Array Value) below meth c H locs 0 0 (MQ below (va_Qv (fun (u : AS × CS) => Q u.1 u.2) (fun u t => va_P D classes (AW cI cZ cW q0 q1 Y u.1 u.2) t.heap) A) (#[.ref (q0 0), .ref (q1 0)] : Array Value) s 0 0 A) (F0 m 0 ls []) := by
    intro H locs hP hD hS
    refine lv_aload_n hx hb dX0_takeBack_0 rfl (lv_at hl 0 rfl) ?_
    refine lv_aload_n hx hb dX0_takeBack_1 rfl (lv_at hl 0 rfl) ?_
    refine va_get (D := D) (ci := 0) (v := .int (a.1.1 1)) (C := RX0) (T := TX0) (N := 2) hx hb ht inX0 hown hK hP 5 eB_o rfl 1 (by decide) (ht _ tw_125) (fun _ h9 => h9) rfl dX0_takeBack_2 ?_
    refine lv_iconst (v := (1 : Int32)) hx hb dX0_takeBack_5 (by decide) ?_
    refine lv_isub hx hb dX0_takeBack_6 ?_
    have hPc : va_P D classes (wA cI cZ cW q0 Y a) H := PB_s hP
    refine va_csq (W.runV (As := [.int ((a.1.1 1) - (1 : Int32))]) (rest := []) ⟨hx, hb, hml, hown, hts⟩ (c_X0_wheelAt l D cI cZ cW q0 Y ((a.1.1 1) - (1 : Int32)) a _ hf) ⟨callB_of 1 hts (gA tw_358) rfl rfl rfl (ht _ tw_5) (ht _ tw_355) hd_X0_wheelAt ⟨Nat.le_of_ble_eq_true rfl, Nat.le_of_ble_eq_true rfl⟩, ht _ tw_357, ht _ twp_8⟩ ⟨PR_blind, va_recv hK hP (ci := 0) (q0 := 5) rfl eB_o, fun U hU hW => PR_mk hPc hK hU hW⟩ rfl rfl hl.1 rfl (lv_room (Nat.le_of_ble_eq_true rfl)) dX0_takeBack_7 ⟨Nat.zero_le _, Nat.zero_le _⟩) (fun r_1 hf => ?_)
    rcases hf with ⟨rfl, hf⟩ | ⟨k_2, rfl, hf⟩
    · refine W.eq (g2 := F0 m 10 ls [.null]) rfl ?_
      refine lv_astore_nN (lv' := [(2, .null), (0, .ref (q0 0)), (1, .ref (q1 0))]) hx hb dX0_takeBack_10 rfl hl (by decide) rfl (fun ls hl => ?_)
      refine lv_aload_nN hx hb dX0_takeBack_11 rfl (lv_at hl 0 rfl) ?_
      refine lv_ifnullN (tgt := 30) hx hb dX0_takeBack_12 (by decide) ?_
      exact W.vret hx hb hr (fun t ht hW => ⟨⟨(a, s1), rfl, hf, P_heap ht hP⟩, hS.F ht⟩) hS.2.2 dX0_takeBack_30
    · refine W.eq (g2 := F0 m 10 ls [.ref (Y k_2 0)]) rfl ?_
      refine lv_astore_n (lv' := [(2, .ref (Y k_2 0)), (0, .ref (q0 0)), (1, .ref (q1 0))]) hx hb dX0_takeBack_10 rfl hl (by decide) rfl (fun ls hl => ?_)
      refine lv_aload_n hx hb dX0_takeBack_11 rfl (lv_at hl 0 rfl) ?_
      refine lv_ifnull hx hb dX0_takeBack_12 ?_
      refine lv_aload_n hx hb dX0_takeBack_15 rfl (lv_at hl 2 rfl) ?_
      refine lv_aload_n hx hb dX0_takeBack_16 rfl (lv_at hl 0 rfl) ?_
      obtain ⟨hk_3, hf⟩ := hf
      have hPc : va_P D classes (wW cI cZ q1 s1 ++ wW cI cZ (Y k_2) (a.2.2 k_2)) H := PB_bw hk_3 hP
      have hDc : va_D A (wW cI cZ q1 s1 ++ wW cI cZ (Y k_2) (a.2.2 k_2)) := DB_bw hk_3 hD
      have hFc := va_freeX hDc hS hA
      refine va_callv (va_runV (As := [.ref (Y k_2 0)]) (rest := []) ⟨hx, hb, hml, hown, hts⟩ (c_X5_copyFrom l D cI cZ cW q1 (Y k_2) H.size s1 (a.2.2 k_2) _ hf) ⟨callB_of 1 hts (gA tw_362) rfl rfl rfl (ht _ tw_4) (ht _ tw_359) hd_X5_copyFrom ⟨Nat.le_of_ble_eq_true rfl, Nat.le_of_ble_eq_true rfl⟩, ht _ tw_360, ht _ tw_361⟩ ⟨PW_blind, va_recv hK hP (ci := 3) (q0 := 0) rfl rfl, fun U hU hW => PW_mk hPc hDc hK hU hW⟩ rfl rfl hl.1 rfl (lv_room (Nat.le_of_ble_eq_true rfl)) dX0_takeBack_17 ⟨Nat.zero_le _, Nat.zero_le _⟩) hS (fun q _ h => hFc q h) hFc (fun u t H1 locs ht1 hvm hf hB hz1 hk1 hS => ?_)
      obtain ⟨s_4, s_5⟩ := u
      dsimp only at hf hB
      rw [ht1] at hB
      have hP := JB_bw hk_3 hP hD hk1 hB
      generalize H1 = H at hP hS ⊢
      obtain ⟨a_6, ea_6⟩ : ∃ y : AS, y = (a.1, a.2.1, va_up a.2.2 k_2 s_5) := ⟨_, rfl⟩
      have hf := hf a_6 ea_6
      have hP : va_P D classes (AW cI cZ cW q0 q1 Y a_6 s_4) H := by rw [ea_6]; exact hP
      have hD := hDk a_6 s_4
      refine lv_aload_n hx hb dX0_takeBack_20 rfl (lv_at hl 1 rfl) ?_
      refine lv_dup hx hb dX0_takeBack_21 rfl ?_
      refine va_get (D := D) (ci := 0) (v := .int (a_6.1.1 1)) (C := RX0) (T := TX0) (N := 2) hx hb ht inX0 hown hK hP 5 eB_o rfl 1 (by decide) (ht _ tw_125) (fun _ h9 => h9) rfl dX0_takeBack_22 ?_
      refine lv_iconst (v := (1 : Int32)) hx hb dX0_takeBack_25 (by decide) ?_
      refine lv_isub hx hb dX0_takeBack_26 ?_
      refine va_put (D := D) (ci := 0) (v := .int ((a_6.1.1 1) - (1 : Int32))) (ty := .int) (C := RX0) (T := TX0) (N := 2) hx hb ht inX0 tyX0 tyX0_ok nmX0 hown hK hP hD hS 5 eB_o rfl 1 (by decide) (ht _ tw_125) (fun _ h9 => h9) rfl pf_I rfl rfl (Nat.le_of_ble_eq_true rfl) dX0_takeBack_27 (fun H locs hP hD hS => ?_)
      obtain ⟨a_7, ea_7⟩ : ∃ y : AS, y = (sI a_6.1 1 ((a_6.1.1 1) - (1 : Int32)), a_6.2) := ⟨_, rfl⟩
      have hf := hf a_7 ea_7
      have hP : va_P D classes (AW cI cZ cW q0 q1 Y a_7 s_4) H := by rw [ea_7]; exact PB_I1 hP
      have hD := hDk a_7 s_4
      exact W.vret hx hb hr (fun t ht hW => ⟨⟨(a_7, s_4), rfl, hf, P_heap ht hP⟩, hS.F ht⟩) hS.2.2 dX0_takeBack_30
  exact start s.heap [] hP hD hS
