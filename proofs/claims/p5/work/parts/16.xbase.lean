abbrev AS : Type := CS × (Nat → Option Nat) × (Nat → CS)
def slF (Z : Nat → Nat → Nat) : Nat → Option Nat := fun i => if i = 0 then some (Z 7 0) else some (Z 8 0)
def wA (cI cZ cW : ClassId) (q : Nat → Nat) (Y : Nat → Nat → Nat) (a : AS) : va_W := (q 0, .inr (0, [.ref (q 1), .int (a.1.1 1)])) :: (q 1, .inl (cW, 14, .inr (.inr (.inr (.inr a.2.1))))) :: (wW cI cZ (Y 0) (a.2.2 0) ++ (wW cI cZ (Y 1) (a.2.2 1) ++ (wW cI cZ (Y 2) (a.2.2 2) ++ (wW cI cZ (Y 3) (a.2.2 3) ++ (wW cI cZ (Y 4) (a.2.2 4) ++ (wW cI cZ (Y 5) (a.2.2 5) ++ (wW cI cZ (Y 6) (a.2.2 6) ++ (wW cI cZ (Y 7) (a.2.2 7) ++ (wW cI cZ (Y 8) (a.2.2 8) ++ (wW cI cZ (Y 9) (a.2.2 9) ++ (wW cI cZ (Y 10) (a.2.2 10) ++ (wW cI cZ (Y 11) (a.2.2 11) ++ (wW cI cZ (Y 12) (a.2.2 12) ++ (wW cI cZ (Y 13) (a.2.2 13)))))))))))))))
def XW (cI cZ cW : ClassId) (Z Y : Nat → Nat → Nat) (e1 e2 : Nat) (S : Nat → CS) (a : AS) : va_W := (Z 0 0, .inr (4, [.ref (Z 0 1), .int ((S 0).1 1), .ref e1, .ref e2, .ref (Z 3 0), .ref (Z 4 0), .ref (Z 5 0), .ref (Z 9 0), .ref (Z 0 2), .int ((S 0).1 9), .ref (Z 6 0), .long (S 0).2.2])) :: (Z 0 1, .inl (cI, 48, .inl ((S 0).2.1 0))) :: (Z 0 2, .inl (cW, 2, .inr (.inr (.inr (.inr (slF Z)))))) :: (wD cI cZ (Z 1) (S 1) ++ (wD cI cZ (Z 2) (S 2) ++ (wD cI cZ (Z 3) (S 3) ++ (wW cI cZ (Z 4) (S 4) ++ (wW cI cZ (Z 5) (S 5) ++ (wT cI cZ (Z 6) (S 6) ++ (wW cI cZ (Z 7) (S 7) ++ (wW cI cZ (Z 8) (S 8) ++ (wA cI cZ cW (Z 9) Y a)))))))))
def XWp (cI cZ cW : ClassId) (Z : Nat → Nat → Nat) (e1 e2 : Nat) (S : Nat → CS) : va_W := (Z 0 0, .inr (4, [.ref (Z 0 1), .int ((S 0).1 1), .ref e1, .ref e2, .ref (Z 3 0), .ref (Z 4 0), .ref (Z 5 0), .ref (Z 9 0), .ref (Z 0 2), .int ((S 0).1 9), .ref (Z 6 0), .long (S 0).2.2])) :: (Z 0 1, .inl (cI, 48, .inl ((S 0).2.1 0))) :: (Z 0 2, .inl (cW, 2, .inr (.inr (.inr (.inr (slF Z)))))) :: (wD cI cZ (Z 1) (S 1) ++ (wD cI cZ (Z 2) (S 2) ++ (wD cI cZ (Z 3) (S 3) ++ (wW cI cZ (Z 4) (S 4) ++ (wW cI cZ (Z 5) (S 5) ++ (wT cI cZ (Z 6) (S 6) ++ (wW cI cZ (Z 7) (S 7) ++ (wW cI cZ (Z 8) (S 8)))))))))
theorem XW_eq (cI cZ cW : ClassId) (Z Y : Nat → Nat → Nat) (e1 e2 : Nat) (S : Nat → CS) (a : AS) : XW cI cZ cW Z Y e1 e2 S a = XWp cI cZ cW Z e1 e2 S ++ wA cI cZ cW (Z 9) Y a := rfl
def AW (cI cZ cW : ClassId) (q r : Nat → Nat) (Y : Nat → Nat → Nat) (a : AS) (w : CS) : va_W := wW cI cZ r w ++ wA cI cZ cW q Y a
theorem eX_0 {cI cZ cW : ClassId} {Z Y : Nat → Nat → Nat} {e1 e2 : Nat} {S : Nat → CS} {a : AS} : (XW cI cZ cW Z Y e1 e2 S a)[0]? = some (Z 0 0, .inr (4, [.ref (Z 0 1), .int ((S 0).1 1), .ref e1, .ref e2, .ref (Z 3 0), .ref (Z 4 0), .ref (Z 5 0), .ref (Z 9 0), .ref (Z 0 2), .int ((S 0).1 9), .ref (Z 6 0), .long (S 0).2.2])) := rfl
theorem eX_1 {cI cZ cW : ClassId} {Z Y : Nat → Nat → Nat} {e1 e2 : Nat} {S : Nat → CS} {a : AS} : (XW cI cZ cW Z Y e1 e2 S a)[1]? = some (Z 0 1, .inl (cI, 48, .inl ((S 0).2.1 0))) := rfl
theorem eX_2 {cI cZ cW : ClassId} {Z Y : Nat → Nat → Nat} {e1 e2 : Nat} {S : Nat → CS} {a : AS} : (XW cI cZ cW Z Y e1 e2 S a)[2]? = some (Z 0 2, .inl (cW, 2, .inr (.inr (.inr (.inr (slF Z)))))) := rfl
theorem eX_3 {cI cZ cW : ClassId} {Z Y : Nat → Nat → Nat} {e1 e2 : Nat} {S : Nat → CS} {a : AS} : (XW cI cZ cW Z Y e1 e2 S a)[3]? = some (Z 1 0, .inr (1, [.int ((S 1).1 0), .int ((S 1).1 1), .ref (Z 1 1), .ref (Z 1 2), .ref (Z 1 3), .ref (Z 1 4), .ref (Z 1 5), .int ((S 1).1 7), .int ((S 1).1 8), .int ((S 1).1 9), .int ((S 1).1 10), .int ((S 1).1 11), .int ((S 1).1 12), .int ((S 1).1 13)])) := rfl
theorem eX_4 {cI cZ cW : ClassId} {Z Y : Nat → Nat → Nat} {e1 e2 : Nat} {S : Nat → CS} {a : AS} : (XW cI cZ cW Z Y e1 e2 S a)[4]? = some (Z 1 1, .inl (cI, 4, .inl ((S 1).2.1 2))) := rfl
theorem eX_5 {cI cZ cW : ClassId} {Z Y : Nat → Nat → Nat} {e1 e2 : Nat} {S : Nat → CS} {a : AS} : (XW cI cZ cW Z Y e1 e2 S a)[5]? = some (Z 1 2, .inl (cI, 4, .inl ((S 1).2.1 3))) := rfl
theorem eX_6 {cI cZ cW : ClassId} {Z Y : Nat → Nat → Nat} {e1 e2 : Nat} {S : Nat → CS} {a : AS} : (XW cI cZ cW Z Y e1 e2 S a)[6]? = some (Z 1 3, .inl (cI, 5, .inl ((S 1).2.1 4))) := rfl
theorem eX_7 {cI cZ cW : ClassId} {Z Y : Nat → Nat → Nat} {e1 e2 : Nat} {S : Nat → CS} {a : AS} : (XW cI cZ cW Z Y e1 e2 S a)[7]? = some (Z 1 4, .inl (cI, 5, .inl ((S 1).2.1 5))) := rfl
theorem eX_8 {cI cZ cW : ClassId} {Z Y : Nat → Nat → Nat} {e1 e2 : Nat} {S : Nat → CS} {a : AS} : (XW cI cZ cW Z Y e1 e2 S a)[8]? = some (Z 1 5, .inl (cI, 5, .inl ((S 1).2.1 6))) := rfl
theorem eX_9 {cI cZ cW : ClassId} {Z Y : Nat → Nat → Nat} {e1 e2 : Nat} {S : Nat → CS} {a : AS} : (XW cI cZ cW Z Y e1 e2 S a)[9]? = some (Z 2 0, .inr (1, [.int ((S 2).1 0), .int ((S 2).1 1), .ref (Z 2 1), .ref (Z 2 2), .ref (Z 2 3), .ref (Z 2 4), .ref (Z 2 5), .int ((S 2).1 7), .int ((S 2).1 8), .int ((S 2).1 9), .int ((S 2).1 10), .int ((S 2).1 11), .int ((S 2).1 12), .int ((S 2).1 13)])) := rfl
theorem eX_10 {cI cZ cW : ClassId} {Z Y : Nat → Nat → Nat} {e1 e2 : Nat} {S : Nat → CS} {a : AS} : (XW cI cZ cW Z Y e1 e2 S a)[10]? = some (Z 2 1, .inl (cI, 4, .inl ((S 2).2.1 2))) := rfl
theorem eX_11 {cI cZ cW : ClassId} {Z Y : Nat → Nat → Nat} {e1 e2 : Nat} {S : Nat → CS} {a : AS} : (XW cI cZ cW Z Y e1 e2 S a)[11]? = some (Z 2 2, .inl (cI, 4, .inl ((S 2).2.1 3))) := rfl
theorem eX_12 {cI cZ cW : ClassId} {Z Y : Nat → Nat → Nat} {e1 e2 : Nat} {S : Nat → CS} {a : AS} : (XW cI cZ cW Z Y e1 e2 S a)[12]? = some (Z 2 3, .inl (cI, 5, .inl ((S 2).2.1 4))) := rfl
theorem eX_13 {cI cZ cW : ClassId} {Z Y : Nat → Nat → Nat} {e1 e2 : Nat} {S : Nat → CS} {a : AS} : (XW cI cZ cW Z Y e1 e2 S a)[13]? = some (Z 2 4, .inl (cI, 5, .inl ((S 2).2.1 5))) := rfl
theorem eX_14 {cI cZ cW : ClassId} {Z Y : Nat → Nat → Nat} {e1 e2 : Nat} {S : Nat → CS} {a : AS} : (XW cI cZ cW Z Y e1 e2 S a)[14]? = some (Z 2 5, .inl (cI, 5, .inl ((S 2).2.1 6))) := rfl
theorem eX_15 {cI cZ cW : ClassId} {Z Y : Nat → Nat → Nat} {e1 e2 : Nat} {S : Nat → CS} {a : AS} : (XW cI cZ cW Z Y e1 e2 S a)[15]? = some (Z 3 0, .inr (1, [.int ((S 3).1 0), .int ((S 3).1 1), .ref (Z 3 1), .ref (Z 3 2), .ref (Z 3 3), .ref (Z 3 4), .ref (Z 3 5), .int ((S 3).1 7), .int ((S 3).1 8), .int ((S 3).1 9), .int ((S 3).1 10), .int ((S 3).1 11), .int ((S 3).1 12), .int ((S 3).1 13)])) := rfl
theorem eX_16 {cI cZ cW : ClassId} {Z Y : Nat → Nat → Nat} {e1 e2 : Nat} {S : Nat → CS} {a : AS} : (XW cI cZ cW Z Y e1 e2 S a)[16]? = some (Z 3 1, .inl (cI, 4, .inl ((S 3).2.1 2))) := rfl
theorem eX_17 {cI cZ cW : ClassId} {Z Y : Nat → Nat → Nat} {e1 e2 : Nat} {S : Nat → CS} {a : AS} : (XW cI cZ cW Z Y e1 e2 S a)[17]? = some (Z 3 2, .inl (cI, 4, .inl ((S 3).2.1 3))) := rfl
theorem eX_18 {cI cZ cW : ClassId} {Z Y : Nat → Nat → Nat} {e1 e2 : Nat} {S : Nat → CS} {a : AS} : (XW cI cZ cW Z Y e1 e2 S a)[18]? = some (Z 3 3, .inl (cI, 5, .inl ((S 3).2.1 4))) := rfl
theorem eX_19 {cI cZ cW : ClassId} {Z Y : Nat → Nat → Nat} {e1 e2 : Nat} {S : Nat → CS} {a : AS} : (XW cI cZ cW Z Y e1 e2 S a)[19]? = some (Z 3 4, .inl (cI, 5, .inl ((S 3).2.1 5))) := rfl
theorem eX_20 {cI cZ cW : ClassId} {Z Y : Nat → Nat → Nat} {e1 e2 : Nat} {S : Nat → CS} {a : AS} : (XW cI cZ cW Z Y e1 e2 S a)[20]? = some (Z 3 5, .inl (cI, 5, .inl ((S 3).2.1 6))) := rfl
theorem eX_21 {cI cZ cW : ClassId} {Z Y : Nat → Nat → Nat} {e1 e2 : Nat} {S : Nat → CS} {a : AS} : (XW cI cZ cW Z Y e1 e2 S a)[21]? = some (Z 4 0, .inr (3, [.ref (Z 4 1), .ref (Z 4 2), .ref (Z 4 3), .ref (Z 4 4), .int ((S 4).1 4), .int ((S 4).1 5)])) := rfl
theorem eX_22 {cI cZ cW : ClassId} {Z Y : Nat → Nat → Nat} {e1 e2 : Nat} {S : Nat → CS} {a : AS} : (XW cI cZ cW Z Y e1 e2 S a)[22]? = some (Z 4 1, .inl (cI, 5, .inl ((S 4).2.1 0))) := rfl
theorem eX_23 {cI cZ cW : ClassId} {Z Y : Nat → Nat → Nat} {e1 e2 : Nat} {S : Nat → CS} {a : AS} : (XW cI cZ cW Z Y e1 e2 S a)[23]? = some (Z 4 2, .inl (cI, 5, .inl ((S 4).2.1 1))) := rfl
theorem eX_24 {cI cZ cW : ClassId} {Z Y : Nat → Nat → Nat} {e1 e2 : Nat} {S : Nat → CS} {a : AS} : (XW cI cZ cW Z Y e1 e2 S a)[24]? = some (Z 4 3, .inl (cI, 5, .inl ((S 4).2.1 2))) := rfl
theorem eX_25 {cI cZ cW : ClassId} {Z Y : Nat → Nat → Nat} {e1 e2 : Nat} {S : Nat → CS} {a : AS} : (XW cI cZ cW Z Y e1 e2 S a)[25]? = some (Z 4 4, .inl (cI, 4, .inl ((S 4).2.1 3))) := rfl
theorem eX_26 {cI cZ cW : ClassId} {Z Y : Nat → Nat → Nat} {e1 e2 : Nat} {S : Nat → CS} {a : AS} : (XW cI cZ cW Z Y e1 e2 S a)[26]? = some (Z 5 0, .inr (3, [.ref (Z 5 1), .ref (Z 5 2), .ref (Z 5 3), .ref (Z 5 4), .int ((S 5).1 4), .int ((S 5).1 5)])) := rfl
theorem eX_27 {cI cZ cW : ClassId} {Z Y : Nat → Nat → Nat} {e1 e2 : Nat} {S : Nat → CS} {a : AS} : (XW cI cZ cW Z Y e1 e2 S a)[27]? = some (Z 5 1, .inl (cI, 5, .inl ((S 5).2.1 0))) := rfl
theorem eX_28 {cI cZ cW : ClassId} {Z Y : Nat → Nat → Nat} {e1 e2 : Nat} {S : Nat → CS} {a : AS} : (XW cI cZ cW Z Y e1 e2 S a)[28]? = some (Z 5 2, .inl (cI, 5, .inl ((S 5).2.1 1))) := rfl
theorem eX_29 {cI cZ cW : ClassId} {Z Y : Nat → Nat → Nat} {e1 e2 : Nat} {S : Nat → CS} {a : AS} : (XW cI cZ cW Z Y e1 e2 S a)[29]? = some (Z 5 3, .inl (cI, 5, .inl ((S 5).2.1 2))) := rfl
theorem eX_30 {cI cZ cW : ClassId} {Z Y : Nat → Nat → Nat} {e1 e2 : Nat} {S : Nat → CS} {a : AS} : (XW cI cZ cW Z Y e1 e2 S a)[30]? = some (Z 5 4, .inl (cI, 4, .inl ((S 5).2.1 3))) := rfl
theorem eX_31 {cI cZ cW : ClassId} {Z Y : Nat → Nat → Nat} {e1 e2 : Nat} {S : Nat → CS} {a : AS} : (XW cI cZ cW Z Y e1 e2 S a)[31]? = some (Z 6 0, .inr (2, [.ref (Z 6 1), .ref (Z 6 2), .ref (Z 6 3), .int ((S 6).1 3)])) := rfl
theorem eX_32 {cI cZ cW : ClassId} {Z Y : Nat → Nat → Nat} {e1 e2 : Nat} {S : Nat → CS} {a : AS} : (XW cI cZ cW Z Y e1 e2 S a)[32]? = some (Z 6 1, .inl (cI, 6, .inl ((S 6).2.1 0))) := rfl
theorem eX_33 {cI cZ cW : ClassId} {Z Y : Nat → Nat → Nat} {e1 e2 : Nat} {S : Nat → CS} {a : AS} : (XW cI cZ cW Z Y e1 e2 S a)[33]? = some (Z 6 2, .inl (cI, 6, .inl ((S 6).2.1 1))) := rfl
theorem eX_34 {cI cZ cW : ClassId} {Z Y : Nat → Nat → Nat} {e1 e2 : Nat} {S : Nat → CS} {a : AS} : (XW cI cZ cW Z Y e1 e2 S a)[34]? = some (Z 6 3, .inl (cZ, 6, .inl ((S 6).2.1 2))) := rfl
theorem eX_35 {cI cZ cW : ClassId} {Z Y : Nat → Nat → Nat} {e1 e2 : Nat} {S : Nat → CS} {a : AS} : (XW cI cZ cW Z Y e1 e2 S a)[35]? = some (Z 7 0, .inr (3, [.ref (Z 7 1), .ref (Z 7 2), .ref (Z 7 3), .ref (Z 7 4), .int ((S 7).1 4), .int ((S 7).1 5)])) := rfl
theorem eX_36 {cI cZ cW : ClassId} {Z Y : Nat → Nat → Nat} {e1 e2 : Nat} {S : Nat → CS} {a : AS} : (XW cI cZ cW Z Y e1 e2 S a)[36]? = some (Z 7 1, .inl (cI, 5, .inl ((S 7).2.1 0))) := rfl
theorem eX_37 {cI cZ cW : ClassId} {Z Y : Nat → Nat → Nat} {e1 e2 : Nat} {S : Nat → CS} {a : AS} : (XW cI cZ cW Z Y e1 e2 S a)[37]? = some (Z 7 2, .inl (cI, 5, .inl ((S 7).2.1 1))) := rfl
theorem eX_38 {cI cZ cW : ClassId} {Z Y : Nat → Nat → Nat} {e1 e2 : Nat} {S : Nat → CS} {a : AS} : (XW cI cZ cW Z Y e1 e2 S a)[38]? = some (Z 7 3, .inl (cI, 5, .inl ((S 7).2.1 2))) := rfl
theorem eX_39 {cI cZ cW : ClassId} {Z Y : Nat → Nat → Nat} {e1 e2 : Nat} {S : Nat → CS} {a : AS} : (XW cI cZ cW Z Y e1 e2 S a)[39]? = some (Z 7 4, .inl (cI, 4, .inl ((S 7).2.1 3))) := rfl
theorem eX_40 {cI cZ cW : ClassId} {Z Y : Nat → Nat → Nat} {e1 e2 : Nat} {S : Nat → CS} {a : AS} : (XW cI cZ cW Z Y e1 e2 S a)[40]? = some (Z 8 0, .inr (3, [.ref (Z 8 1), .ref (Z 8 2), .ref (Z 8 3), .ref (Z 8 4), .int ((S 8).1 4), .int ((S 8).1 5)])) := rfl
theorem eX_41 {cI cZ cW : ClassId} {Z Y : Nat → Nat → Nat} {e1 e2 : Nat} {S : Nat → CS} {a : AS} : (XW cI cZ cW Z Y e1 e2 S a)[41]? = some (Z 8 1, .inl (cI, 5, .inl ((S 8).2.1 0))) := rfl
theorem eX_42 {cI cZ cW : ClassId} {Z Y : Nat → Nat → Nat} {e1 e2 : Nat} {S : Nat → CS} {a : AS} : (XW cI cZ cW Z Y e1 e2 S a)[42]? = some (Z 8 2, .inl (cI, 5, .inl ((S 8).2.1 1))) := rfl
theorem eX_43 {cI cZ cW : ClassId} {Z Y : Nat → Nat → Nat} {e1 e2 : Nat} {S : Nat → CS} {a : AS} : (XW cI cZ cW Z Y e1 e2 S a)[43]? = some (Z 8 3, .inl (cI, 5, .inl ((S 8).2.1 2))) := rfl
theorem eX_44 {cI cZ cW : ClassId} {Z Y : Nat → Nat → Nat} {e1 e2 : Nat} {S : Nat → CS} {a : AS} : (XW cI cZ cW Z Y e1 e2 S a)[44]? = some (Z 8 4, .inl (cI, 4, .inl ((S 8).2.1 3))) := rfl
theorem eX_45 {cI cZ cW : ClassId} {Z Y : Nat → Nat → Nat} {e1 e2 : Nat} {S : Nat → CS} {a : AS} : (XW cI cZ cW Z Y e1 e2 S a)[45]? = some (Z 9 0, .inr (0, [.ref (Z 9 1), .int (a.1.1 1)])) := rfl
set_option maxRecDepth 100000 in
theorem D_X {A : Nat → Prop} {cI cZ cW : ClassId} {Z Y : Nat → Nat → Nat} {e1 e2 : Nat} {S : Nat → CS} {a : AS} {S2 : Nat → CS} {a2 : AS} {f1 f2 : Nat} (h : va_D A (XW cI cZ cW Z Y e1 e2 S a)) : va_D A (XW cI cZ cW Z Y f1 f2 S2 a2) := h.same rfl
theorem PX_0_I1 {D : va_G} {cI cZ cW : ClassId} {Z Y : Nat → Nat → Nat} {e1 e2 : Nat} {S : Nat → CS} {a : AS} {H : Heap} {v : Int32} (h : va_P D classes ((XW cI cZ cW Z Y e1 e2 S a).set 0 (Z 0 0, .inr (4, List.set [.ref (Z 0 1), .int ((S 0).1 1), .ref e1, .ref e2, .ref (Z 3 0), .ref (Z 4 0), .ref (Z 5 0), .ref (Z 9 0), .ref (Z 0 2), .int ((S 0).1 9), .ref (Z 6 0), .long (S 0).2.2] 1 (.int v)))) H) : va_P D classes (XW cI cZ cW Z Y e1 e2 (va_up S 0 (sI (S 0) 1 v)) a) H := h
theorem PX_0_I9 {D : va_G} {cI cZ cW : ClassId} {Z Y : Nat → Nat → Nat} {e1 e2 : Nat} {S : Nat → CS} {a : AS} {H : Heap} {v : Int32} (h : va_P D classes ((XW cI cZ cW Z Y e1 e2 S a).set 0 (Z 0 0, .inr (4, List.set [.ref (Z 0 1), .int ((S 0).1 1), .ref e1, .ref e2, .ref (Z 3 0), .ref (Z 4 0), .ref (Z 5 0), .ref (Z 9 0), .ref (Z 0 2), .int ((S 0).1 9), .ref (Z 6 0), .long (S 0).2.2] 9 (.int v)))) H) : va_P D classes (XW cI cZ cW Z Y e1 e2 (va_up S 0 (sI (S 0) 9 v)) a) H := h
theorem PX_0_L11 {D : va_G} {cI cZ cW : ClassId} {Z Y : Nat → Nat → Nat} {e1 e2 : Nat} {S : Nat → CS} {a : AS} {H : Heap} {v : Int64} (h : va_P D classes ((XW cI cZ cW Z Y e1 e2 S a).set 0 (Z 0 0, .inr (4, List.set [.ref (Z 0 1), .int ((S 0).1 1), .ref e1, .ref e2, .ref (Z 3 0), .ref (Z 4 0), .ref (Z 5 0), .ref (Z 9 0), .ref (Z 0 2), .int ((S 0).1 9), .ref (Z 6 0), .long (S 0).2.2] 11 (.long v)))) H) : va_P D classes (XW cI cZ cW Z Y e1 e2 (va_up S 0 (sL (S 0) v)) a) H := h
theorem PX_E2 {D : va_G} {cI cZ cW : ClassId} {Z Y : Nat → Nat → Nat} {e1 e2 : Nat} {S : Nat → CS} {a : AS} {H : Heap} {v : Nat} (h : va_P D classes ((XW cI cZ cW Z Y e1 e2 S a).set 0 (Z 0 0, .inr (4, List.set [.ref (Z 0 1), .int ((S 0).1 1), .ref e1, .ref e2, .ref (Z 3 0), .ref (Z 4 0), .ref (Z 5 0), .ref (Z 9 0), .ref (Z 0 2), .int ((S 0).1 9), .ref (Z 6 0), .long (S 0).2.2] 2 (.ref v)))) H) : va_P D classes (XW cI cZ cW Z Y v e2 S a) H := h
theorem PX_E3 {D : va_G} {cI cZ cW : ClassId} {Z Y : Nat → Nat → Nat} {e1 e2 : Nat} {S : Nat → CS} {a : AS} {H : Heap} {v : Nat} (h : va_P D classes ((XW cI cZ cW Z Y e1 e2 S a).set 0 (Z 0 0, .inr (4, List.set [.ref (Z 0 1), .int ((S 0).1 1), .ref e1, .ref e2, .ref (Z 3 0), .ref (Z 4 0), .ref (Z 5 0), .ref (Z 9 0), .ref (Z 0 2), .int ((S 0).1 9), .ref (Z 6 0), .long (S 0).2.2] 3 (.ref v)))) H) : va_P D classes (XW cI cZ cW Z Y e1 v S a) H := h
theorem PX_0_F0 {D : va_G} {cI cZ cW : ClassId} {Z Y : Nat → Nat → Nat} {e1 e2 : Nat} {S : Nat → CS} {a : AS} {H : Heap} {f : FA} (h : va_P D classes ((XW cI cZ cW Z Y e1 e2 S a).set 1 (Z 0 1, .inl (cI, 48, .inl f))) H) : va_P D classes (XW cI cZ cW Z Y e1 e2 (va_up S 0 (sF (S 0) 0 f)) a) H := h
theorem PX_6_I3 {D : va_G} {cI cZ cW : ClassId} {Z Y : Nat → Nat → Nat} {e1 e2 : Nat} {S : Nat → CS} {a : AS} {H : Heap} {v : Int32} (h : va_P D classes ((XW cI cZ cW Z Y e1 e2 S a).set 31 (Z 6 0, .inr (2, List.set [.ref (Z 6 1), .ref (Z 6 2), .ref (Z 6 3), .int ((S 6).1 3)] 3 (.int v)))) H) : va_P D classes (XW cI cZ cW Z Y e1 e2 (va_up S 6 (sI (S 6) 3 v)) a) H := h
def swZ (Z : Nat → Nat → Nat) : Nat → Nat → Nat := va_up (va_up Z 1 (Z 2)) 2 (Z 1)
def swS (S : Nat → CS) : Nat → CS := va_up (va_up S 1 (S 2)) 2 (S 1)
set_option maxRecDepth 100000 in
theorem PX_sw {D : va_G} {cI cZ cW : ClassId} {Z Y : Nat → Nat → Nat} {S : Nat → CS} {a : AS} {H : Heap} (h : va_P D classes (XW cI cZ cW Z Y (Z 2 0) (Z 1 0) S a) H) : va_P D classes (XW cI cZ cW (swZ Z) Y (swZ Z 1 0) (swZ Z 2 0) (swS S) a) H := h.sub [0, 1, 2, 9, 10, 11, 12, 13, 14, 3, 4, 5, 6, 7, 8, 15, 16, 17, 18, 19, 20, 21, 22, 23, 24, 25, 26, 27, 28, 29, 30, 31, 32, 33, 34, 35, 36, 37, 38, 39, 40, 41, 42, 43, 44, 45, 46, 47, 48, 49, 50, 51, 52, 53, 54, 55, 56, 57, 58, 59, 60, 61, 62, 63, 64, 65, 66, 67, 68, 69, 70, 71, 72, 73, 74, 75, 76, 77, 78, 79, 80, 81, 82, 83, 84, 85, 86, 87, 88, 89, 90, 91, 92, 93, 94, 95, 96, 97, 98, 99, 100, 101, 102, 103, 104, 105, 106, 107, 108, 109, 110, 111, 112, 113, 114, 115, 116] rfl
set_option maxRecDepth 100000 in
theorem DX_sw {A : Nat → Prop} {cI cZ cW : ClassId} {Z Y : Nat → Nat → Nat} {S : Nat → CS} {a : AS} (h : va_D A (XW cI cZ cW Z Y (Z 2 0) (Z 1 0) S a)) : va_D A (XW cI cZ cW (swZ Z) Y (swZ Z 1 0) (swZ Z 2 0) (swS S) a) := h.sub [0, 1, 2, 9, 10, 11, 12, 13, 14, 3, 4, 5, 6, 7, 8, 15, 16, 17, 18, 19, 20, 21, 22, 23, 24, 25, 26, 27, 28, 29, 30, 31, 32, 33, 34, 35, 36, 37, 38, 39, 40, 41, 42, 43, 44, 45, 46, 47, 48, 49, 50, 51, 52, 53, 54, 55, 56, 57, 58, 59, 60, 61, 62, 63, 64, 65, 66, 67, 68, 69, 70, 71, 72, 73, 74, 75, 76, 77, 78, 79, 80, 81, 82, 83, 84, 85, 86, 87, 88, 89, 90, 91, 92, 93, 94, 95, 96, 97, 98, 99, 100, 101, 102, 103, 104, 105, 106, 107, 108, 109, 110, 111, 112, 113, 114, 115, 116] (by decide) rfl
theorem eA_o {cI cZ cW : ClassId} {q : Nat → Nat} {Y : Nat → Nat → Nat} {a : AS} : (wA cI cZ cW q Y a)[0]? = some (q 0, .inr (0, [.ref (q 1), .int (a.1.1 1)])) := rfl
theorem eA_r {cI cZ cW : ClassId} {q : Nat → Nat} {Y : Nat → Nat → Nat} {a : AS} : (wA cI cZ cW q Y a)[1]? = some (q 1, .inl (cW, 14, .inr (.inr (.inr (.inr a.2.1))))) := rfl
theorem eA_w {cI cZ cW : ClassId} {q : Nat → Nat} {Y : Nat → Nat → Nat} {a : AS} {k : Nat} (hk : k < 14) : (wA cI cZ cW q Y a)[2 + 5 * k]? = some (Y k 0, .inr (3, [.ref (Y k 1), .ref (Y k 2), .ref (Y k 3), .ref (Y k 4), .int ((a.2.2 k).1 4), .int ((a.2.2 k).1 5)])) := by
  rcases (show k = 0 ∨ k = 1 ∨ k = 2 ∨ k = 3 ∨ k = 4 ∨ k = 5 ∨ k = 6 ∨ k = 7 ∨ k = 8 ∨ k = 9 ∨ k = 10 ∨ k = 11 ∨ k = 12 ∨ k = 13 by omega) with rfl | rfl | rfl | rfl | rfl | rfl | rfl | rfl | rfl | rfl | rfl | rfl | rfl | rfl <;> rfl
theorem PA_I1 {D : va_G} {cI cZ cW : ClassId} {q : Nat → Nat} {Y : Nat → Nat → Nat} {a : AS} {H : Heap} {v : Int32} (h : va_P D classes ((wA cI cZ cW q Y a).set 0 (q 0, .inr (0, List.set [.ref (q 1), .int (a.1.1 1)] 1 (.int v)))) H) : va_P D classes (wA cI cZ cW q Y (sI a.1 1 v, a.2)) H := h
theorem PA_R {D : va_G} {cI cZ cW : ClassId} {q : Nat → Nat} {Y : Nat → Nat → Nat} {a : AS} {H : Heap} {g : Nat → Option Nat} (h : va_P D classes ((wA cI cZ cW q Y a).set 1 (q 1, .inl (cW, 14, .inr (.inr (.inr (.inr g)))))) H) : va_P D classes (wA cI cZ cW q Y (a.1, g, a.2.2)) H := h
theorem eB_o {cI cZ cW : ClassId} {q r : Nat → Nat} {Y : Nat → Nat → Nat} {a : AS} {w : CS} : (AW cI cZ cW q r Y a w)[5]? = some (q 0, .inr (0, [.ref (q 1), .int (a.1.1 1)])) := rfl
theorem eB_r {cI cZ cW : ClassId} {q r : Nat → Nat} {Y : Nat → Nat → Nat} {a : AS} {w : CS} : (AW cI cZ cW q r Y a w)[6]? = some (q 1, .inl (cW, 14, .inr (.inr (.inr (.inr a.2.1))))) := rfl
theorem eB_w {cI cZ cW : ClassId} {q r : Nat → Nat} {Y : Nat → Nat → Nat} {a : AS} {w : CS} {k : Nat} (hk : k < 14) : (AW cI cZ cW q r Y a w)[7 + 5 * k]? = some (Y k 0, .inr (3, [.ref (Y k 1), .ref (Y k 2), .ref (Y k 3), .ref (Y k 4), .int ((a.2.2 k).1 4), .int ((a.2.2 k).1 5)])) := by
  rcases (show k = 0 ∨ k = 1 ∨ k = 2 ∨ k = 3 ∨ k = 4 ∨ k = 5 ∨ k = 6 ∨ k = 7 ∨ k = 8 ∨ k = 9 ∨ k = 10 ∨ k = 11 ∨ k = 12 ∨ k = 13 by omega) with rfl | rfl | rfl | rfl | rfl | rfl | rfl | rfl | rfl | rfl | rfl | rfl | rfl | rfl <;> rfl
theorem PB_I1 {D : va_G} {cI cZ cW : ClassId} {q r : Nat → Nat} {Y : Nat → Nat → Nat} {a : AS} {w : CS} {H : Heap} {v : Int32} (h : va_P D classes ((AW cI cZ cW q r Y a w).set 5 (q 0, .inr (0, List.set [.ref (q 1), .int (a.1.1 1)] 1 (.int v)))) H) : va_P D classes (AW cI cZ cW q r Y (sI a.1 1 v, a.2) w) H := h
theorem PB_R {D : va_G} {cI cZ cW : ClassId} {q r : Nat → Nat} {Y : Nat → Nat → Nat} {a : AS} {w : CS} {H : Heap} {g : Nat → Option Nat} (h : va_P D classes ((AW cI cZ cW q r Y a w).set 6 (q 1, .inl (cW, 14, .inr (.inr (.inr (.inr g)))))) H) : va_P D classes (AW cI cZ cW q r Y (a.1, g, a.2.2) w) H := h
theorem D_A {A : Nat → Prop} {cI cZ cW : ClassId} {q : Nat → Nat} {Y : Nat → Nat → Nat} {a : AS} {a2 : AS} (h : va_D A (wA cI cZ cW q Y a)) : va_D A (wA cI cZ cW q Y a2) := h.same rfl
theorem D_B {A : Nat → Prop} {cI cZ cW : ClassId} {q r : Nat → Nat} {Y : Nat → Nat → Nat} {a : AS} {w : CS} {a2 : AS} {w2 : CS} (h : va_D A (AW cI cZ cW q r Y a w)) : va_D A (AW cI cZ cW q r Y a2 w2) := h.same rfl
theorem va_freeX {A0 : Nat → Prop} {ws : va_W} {H0 H : Heap} {locs : List Loc} (hD : va_D A0 ws) (hS : va_S A0 H0 H locs) (hA : ∀ q, H0.size ≤ q → A0 q) : ∀ q, va_A ws H.size q → A0 q := by
  intro q h
  rcases h with ⟨k, e, h⟩ | h
  · exact hD.2 k (q, e) h
  · exact hA q (Nat.le_trans hS.1 h)
theorem P_suf {D : va_G} {cl : List vw_C} {pre suf : va_W} {H : Heap} (h : va_P D cl (pre ++ suf) H) : va_P D cl suf H := fun k q hq => h (pre.length + k) q (by rw [List.getElem?_append_right (Nat.le_add_right _ _), Nat.add_sub_cancel_left]; exact hq)
theorem P_pre {D : va_G} {cl : List vw_C} {pre suf : va_W} {H : Heap} (h : va_P D cl (pre ++ suf) H) : va_P D cl pre H := fun k q hq => h k q (by rw [List.getElem?_append_left (List.getElem?_eq_some_iff.mp hq).1]; exact hq)
theorem D_pre {A : Nat → Prop} {pre suf : va_W} (h : va_D A (pre ++ suf)) : va_D A pre := by
  have e : ∀ (k : Nat) (q : Nat × va_E), pre[k]? = some q → (pre ++ suf)[k]? = some q := fun k q hq => by rw [List.getElem?_append_left (List.getElem?_eq_some_iff.mp hq).1]; exact hq
  exact ⟨fun i j p q hp hq => h.1 i j p q (e i p hp) (e j q hq), fun k q hq => h.2 k q (e k q hq)⟩
theorem D_suf {A : Nat → Prop} {pre suf : va_W} (h : va_D A (pre ++ suf)) : va_D A suf := by
  have e : ∀ (k : Nat) (q : Nat × va_E), suf[k]? = some q → (pre ++ suf)[pre.length + k]? = some q := fun k q hq => by rw [List.getElem?_append_right (Nat.le_add_right _ _), Nat.add_sub_cancel_left]; exact hq
  exact ⟨fun i j p q hp hq he => by have := h.1 _ _ p q (e i p hp) (e j q hq) he; omega, fun k q hq => h.2 _ q (e k q hq)⟩
theorem D_apart {A : Nat → Prop} {pre suf : va_W} (h : va_D A (pre ++ suf)) {i j : Nat} {p q : Nat × va_E} (hp : pre[i]? = some p) (hq : suf[j]? = some q) : p.1 ≠ q.1 := by
  intro he
  have hi := (List.getElem?_eq_some_iff.mp hp).1
  have := h.1 i (pre.length + j) p q (by rw [List.getElem?_append_left hi]; exact hp) (by rw [List.getElem?_append_right (Nat.le_add_right _ _), Nat.add_sub_cancel_left]; exact hq) he
  omega
theorem sel_at {ws wc : va_W} {is : List Nat} (hC : is.map (fun i => ws[i]?) = wc.map some) {k : Nat} {q : Nat × va_E} (hw : wc[k]? = some q) : ∃ i, i ∈ is ∧ ws[i]? = some q := by
  have h3 : (is.map (fun i => ws[i]?))[k]? = some (some q) := by rw [hC, List.getElem?_map, hw]; rfl
  rw [List.getElem?_map] at h3
  cases hi : is[k]? with
  | none => rw [hi] at h3; cases h3
  | some i => rw [hi] at h3; exact ⟨i, List.mem_of_getElem? hi, Option.some.inj h3⟩
theorem D_cs {A : Nat → Prop} {pre suf c1 : va_W} (is : List Nat) (hn : va_nd is = true) (hC : is.map (fun i => pre[i]?) = c1.map some) (h : va_D A (pre ++ suf)) : va_D A (c1 ++ suf) :=
  va_D.app ((D_pre h).sub is hn hC) (D_suf h) (fun i j p q hp hq => by
    obtain ⟨i2, -, h2⟩ := sel_at hC hp
    exact D_apart h h2 hq)
theorem P_cs {D : va_G} {cl : List vw_C} {pre suf c1 : va_W} {H : Heap} (is : List Nat) (hC : is.map (fun i => pre[i]?) = c1.map some) (h : va_P D cl (pre ++ suf) H) : va_P D cl (c1 ++ suf) H :=
  va_P.app (fun k q hq => by
    obtain ⟨i, -, hi⟩ := sel_at hC hq
    exact P_pre h i q hi) (P_suf h)
theorem cj2 {A0 : Nat → Prop} {D : va_G} {cl : List vw_C} {pre suf suf1 c1 w1 : va_W} {H H1 : Heap} (is : List Nat) (hP : va_P D cl (pre ++ suf) H) (hD : va_D A0 (pre ++ suf)) (hC : is.map (fun i => pre[i]?) = c1.map some) (hA1 : c1.map Prod.fst = w1.map Prod.fst)
    (hk : ∀ q : Nat, q < H.size → ¬ va_A (c1 ++ suf) H.size q → H1[q]? = H[q]?) (hB : va_P D cl (w1 ++ suf1) H1) : va_P D cl (setM pre is w1 ++ suf1) H1 := by
  have hlen : is.length = w1.length := by
    have e1 := congrArg List.length hC
    have e2 := congrArg List.length hA1
    simp only [List.length_map] at e1 e2
    exact e1.trans e2
  refine va_P.app (fun n q hq => ?_) (P_suf hB)
  rcases setM_at is w1 pre n q hlen hq with h1 | ⟨h1, h2⟩
  · obtain ⟨k, hk1⟩ := List.getElem?_of_mem h1
    exact P_pre hB k q hk1
  · have hat := P_pre hP n q h2
    refine hat.kept (hk q.1 hat.lt (fun ha => ?_))
    rcases ha with ⟨k, e, hw⟩ | h
    · rcases Nat.lt_or_ge k c1.length with hl | hl
      · rw [List.getElem?_append_left hl] at hw
        obtain ⟨i, him, hi⟩ := sel_at hC hw
        have h5 := (D_pre hD).1 n i q (q.1, e) h2 hi rfl
        exact h1 (by rw [h5]; exact him)
      · rw [List.getElem?_append_right hl] at hw
        exact D_apart hD h2 hw rfl
    · exact absurd hat.lt (by omega)
theorem D_Bs {A : Nat → Prop} {cI cZ cW : ClassId} {q r : Nat → Nat} {Y : Nat → Nat → Nat} {a : AS} {w : CS} (h : va_D A (AW cI cZ cW q r Y a w)) : va_D A (wA cI cZ cW q Y a) := D_suf (pre := wW cI cZ r w) h
