section
-- ===== PART A: goes FIRST, ahead of the names: the tables' words, and 'selects' of the private methods out of them =====
/-- a private method of a class that the tables say can be made, by its rows of tables_1 -/
def lw_okq (q : MethodName × Nat) : Prop := (q.1.cls ≠ "java/lang/invoke/MethodHandle" ∧ q.1.cls ≠ "java/lang/invoke/VarHandle") ∧ Cond.instantiable q.1.cls q.2 ∈ tables_1 ∧ Cond.privateMethod q.1 ∈ tables_1 ∧ Cond.instanceMethod q.1 ∈ tables_1
theorem lw_p0 : lw_okq (⟨"LetHoles$Deeds", "forget", "()V"⟩, 14) := ⟨⟨by decide +kernel, by decide +kernel⟩, List.mem_of_getElem? (i := 22) (by decide +kernel), List.mem_of_getElem? (i := 207) (by decide +kernel), List.mem_of_getElem? (i := 208) (by decide +kernel)⟩
theorem lw_p1 : lw_okq (⟨"LetHoles$Deeds", "reads", "(I)Z"⟩, 14) := ⟨⟨by decide +kernel, by decide +kernel⟩, List.mem_of_getElem? (i := 22) (by decide +kernel), List.mem_of_getElem? (i := 211) (by decide +kernel), List.mem_of_getElem? (i := 212) (by decide +kernel)⟩
theorem lw_p2 : lw_okq (⟨"LetHoles$Deeds", "opensPart", "(I)Z"⟩, 14) := ⟨⟨by decide +kernel, by decide +kernel⟩, List.mem_of_getElem? (i := 22) (by decide +kernel), List.mem_of_getElem? (i := 215) (by decide +kernel), List.mem_of_getElem? (i := 216) (by decide +kernel)⟩
theorem lw_p3 : lw_okq (⟨"LetHoles$Deeds", "readsOwner", "(I)Z"⟩, 14) := ⟨⟨by decide +kernel, by decide +kernel⟩, List.mem_of_getElem? (i := 22) (by decide +kernel), List.mem_of_getElem? (i := 219) (by decide +kernel), List.mem_of_getElem? (i := 220) (by decide +kernel)⟩
theorem lw_p4 : lw_okq (⟨"LetHoles$Deeds", "readsRow", "(I)Z"⟩, 14) := ⟨⟨by decide +kernel, by decide +kernel⟩, List.mem_of_getElem? (i := 22) (by decide +kernel), List.mem_of_getElem? (i := 226) (by decide +kernel), List.mem_of_getElem? (i := 227) (by decide +kernel)⟩
theorem lw_p5 : lw_okq (⟨"LetHoles$Deeds", "readsHole", "(I)Z"⟩, 14) := ⟨⟨by decide +kernel, by decide +kernel⟩, List.mem_of_getElem? (i := 22) (by decide +kernel), List.mem_of_getElem? (i := 240) (by decide +kernel), List.mem_of_getElem? (i := 241) (by decide +kernel)⟩
theorem lw_p6 : lw_okq (⟨"LetHoles$Deeds", "addHole", "(III)V"⟩, 14) := ⟨⟨by decide +kernel, by decide +kernel⟩, List.mem_of_getElem? (i := 22) (by decide +kernel), List.mem_of_getElem? (i := 251) (by decide +kernel), List.mem_of_getElem? (i := 252) (by decide +kernel)⟩
theorem lw_p7 : lw_okq (⟨"LetHoles$Acts", "forgetFirst", "()V"⟩, 2) := ⟨⟨by decide +kernel, by decide +kernel⟩, List.mem_of_getElem? (i := 116) (by decide +kernel), List.mem_of_getElem? (i := 352) (by decide +kernel), List.mem_of_getElem? (i := 353) (by decide +kernel)⟩
theorem lw_p8 : lw_okq (⟨"LetHoles$Acts", "wheelAt", "(I)LLetHoles$Wheel;"⟩, 2) := ⟨⟨by decide +kernel, by decide +kernel⟩, List.mem_of_getElem? (i := 116) (by decide +kernel), List.mem_of_getElem? (i := 356) (by decide +kernel), List.mem_of_getElem? (i := 357) (by decide +kernel)⟩
theorem lw_p9 : lw_okq (⟨"LetHoles$Wheel", "takeLeast", "(LLetHoles$Deeds;I)V"⟩, 6) := ⟨⟨by decide +kernel, by decide +kernel⟩, List.mem_of_getElem? (i := 85) (by decide +kernel), List.mem_of_getElem? (i := 376) (by decide +kernel), List.mem_of_getElem? (i := 377) (by decide +kernel)⟩
theorem lw_p10 : lw_okq (⟨"LetHoles$Wheel", "pay", "(III)V"⟩, 6) := ⟨⟨by decide +kernel, by decide +kernel⟩, List.mem_of_getElem? (i := 85) (by decide +kernel), List.mem_of_getElem? (i := 397) (by decide +kernel), List.mem_of_getElem? (i := 398) (by decide +kernel)⟩
theorem lw_p11 : lw_okq (⟨"LetHoles$Wheel", "joinFirstPair", "()Z"⟩, 6) := ⟨⟨by decide +kernel, by decide +kernel⟩, List.mem_of_getElem? (i := 85) (by decide +kernel), List.mem_of_getElem? (i := 405) (by decide +kernel), List.mem_of_getElem? (i := 406) (by decide +kernel)⟩
theorem lw_p12 : lw_okq (⟨"LetHoles$Wheel", "joinPair", "(II)V"⟩, 6) := ⟨⟨by decide +kernel, by decide +kernel⟩, List.mem_of_getElem? (i := 85) (by decide +kernel), List.mem_of_getElem? (i := 409) (by decide +kernel), List.mem_of_getElem? (i := 410) (by decide +kernel)⟩
theorem lw_p13 : lw_okq (⟨"LetHoles$Wheel", "endOwning", "(I)V"⟩, 6) := ⟨⟨by decide +kernel, by decide +kernel⟩, List.mem_of_getElem? (i := 85) (by decide +kernel), List.mem_of_getElem? (i := 414) (by decide +kernel), List.mem_of_getElem? (i := 415) (by decide +kernel)⟩
theorem lw_p14 : lw_okq (⟨"LetHoles$Wheel", "payRent", "(LLetHoles$Deeds;I)V"⟩, 6) := ⟨⟨by decide +kernel, by decide +kernel⟩, List.mem_of_getElem? (i := 85) (by decide +kernel), List.mem_of_getElem? (i := 418) (by decide +kernel), List.mem_of_getElem? (i := 419) (by decide +kernel)⟩
theorem lw_p15 : lw_okq (⟨"LetHoles", "mayHaveBegun", "(I)Z"⟩, 12) := ⟨⟨by decide +kernel, by decide +kernel⟩, List.mem_of_getElem? (i := 14) (by decide +kernel), List.mem_of_getElem? (i := 555) (by decide +kernel), List.mem_of_getElem? (i := 556) (by decide +kernel)⟩
def lw_privs_1 : List (MethodName × Nat) := [(⟨"LetHoles$Deeds", "forget", "()V"⟩, 14), (⟨"LetHoles$Deeds", "reads", "(I)Z"⟩, 14), (⟨"LetHoles$Deeds", "opensPart", "(I)Z"⟩, 14), (⟨"LetHoles$Deeds", "readsOwner", "(I)Z"⟩, 14), (⟨"LetHoles$Deeds", "readsRow", "(I)Z"⟩, 14), (⟨"LetHoles$Deeds", "readsHole", "(I)Z"⟩, 14), (⟨"LetHoles$Deeds", "addHole", "(III)V"⟩, 14), (⟨"LetHoles$Acts", "forgetFirst", "()V"⟩, 2), (⟨"LetHoles$Acts", "wheelAt", "(I)LLetHoles$Wheel;"⟩, 2), (⟨"LetHoles$Wheel", "takeLeast", "(LLetHoles$Deeds;I)V"⟩, 6), (⟨"LetHoles$Wheel", "pay", "(III)V"⟩, 6), (⟨"LetHoles$Wheel", "joinFirstPair", "()Z"⟩, 6), (⟨"LetHoles$Wheel", "joinPair", "(II)V"⟩, 6), (⟨"LetHoles$Wheel", "endOwning", "(I)V"⟩, 6), (⟨"LetHoles$Wheel", "payRent", "(LLetHoles$Deeds;I)V"⟩, 6), (⟨"LetHoles", "mayHaveBegun", "(I)Z"⟩, 12)]
theorem lw_r1 : ∀ q ∈ lw_privs_1, lw_okq q := List.forall_mem_cons.mpr ⟨lw_p0, List.forall_mem_cons.mpr ⟨lw_p1, List.forall_mem_cons.mpr ⟨lw_p2, List.forall_mem_cons.mpr ⟨lw_p3, List.forall_mem_cons.mpr ⟨lw_p4, List.forall_mem_cons.mpr ⟨lw_p5, List.forall_mem_cons.mpr ⟨lw_p6, List.forall_mem_cons.mpr ⟨lw_p7, List.forall_mem_cons.mpr ⟨lw_p8, List.forall_mem_cons.mpr ⟨lw_p9, List.forall_mem_cons.mpr ⟨lw_p10, List.forall_mem_cons.mpr ⟨lw_p11, List.forall_mem_cons.mpr ⟨lw_p12, List.forall_mem_cons.mpr ⟨lw_p13, List.forall_mem_cons.mpr ⟨lw_p14, List.forall_mem_cons.mpr ⟨lw_p15, fun _ h => absurd h List.not_mem_nil⟩⟩⟩⟩⟩⟩⟩⟩⟩⟩⟩⟩⟩⟩⟩⟩
theorem lw_p16 : lw_okq (⟨"LetHoles", "largestEstate", "(I)I"⟩, 12) := ⟨⟨by decide +kernel, by decide +kernel⟩, List.mem_of_getElem? (i := 14) (by decide +kernel), List.mem_of_getElem? (i := 575) (by decide +kernel), List.mem_of_getElem? (i := 576) (by decide +kernel)⟩
theorem lw_p17 : lw_okq (⟨"LetHoles", "slotAt", "(I)LLetHoles$Wheel;"⟩, 12) := ⟨⟨by decide +kernel, by decide +kernel⟩, List.mem_of_getElem? (i := 14) (by decide +kernel), List.mem_of_getElem? (i := 638) (by decide +kernel), List.mem_of_getElem? (i := 639) (by decide +kernel)⟩
theorem lw_p18 : lw_okq (⟨"LetHolesModel", "readText", "()I"⟩, 28) := ⟨⟨by decide +kernel, by decide +kernel⟩, List.mem_of_getElem? (i := 650) (by decide +kernel), List.mem_of_getElem? (i := 757) (by decide +kernel), List.mem_of_getElem? (i := 758) (by decide +kernel)⟩
theorem lw_p19 : lw_okq (⟨"LetHolesModel", "readPart", "(I)V"⟩, 28) := ⟨⟨by decide +kernel, by decide +kernel⟩, List.mem_of_getElem? (i := 650) (by decide +kernel), List.mem_of_getElem? (i := 761) (by decide +kernel), List.mem_of_getElem? (i := 762) (by decide +kernel)⟩
theorem lw_p20 : lw_okq (⟨"LetHolesModel", "told", "(II)I"⟩, 28) := ⟨⟨by decide +kernel, by decide +kernel⟩, List.mem_of_getElem? (i := 650) (by decide +kernel), List.mem_of_getElem? (i := 765) (by decide +kernel), List.mem_of_getElem? (i := 766) (by decide +kernel)⟩
theorem lw_p21 : lw_okq (⟨"LetHolesModel", "isOwner", "(I)Z"⟩, 28) := ⟨⟨by decide +kernel, by decide +kernel⟩, List.mem_of_getElem? (i := 650) (by decide +kernel), List.mem_of_getElem? (i := 782) (by decide +kernel), List.mem_of_getElem? (i := 783) (by decide +kernel)⟩
theorem lw_p22 : lw_okq (⟨"LetHolesModel", "estate", "(I)I"⟩, 28) := ⟨⟨by decide +kernel, by decide +kernel⟩, List.mem_of_getElem? (i := 650) (by decide +kernel), List.mem_of_getElem? (i := 786) (by decide +kernel), List.mem_of_getElem? (i := 787) (by decide +kernel)⟩
theorem lw_p23 : lw_okq (⟨"LetHolesModel", "ownerOf", "(II)I"⟩, 28) := ⟨⟨by decide +kernel, by decide +kernel⟩, List.mem_of_getElem? (i := 650) (by decide +kernel), List.mem_of_getElem? (i := 790) (by decide +kernel), List.mem_of_getElem? (i := 791) (by decide +kernel)⟩
theorem lw_p24 : lw_okq (⟨"LetHolesModel", "isHole", "(I)Z"⟩, 28) := ⟨⟨by decide +kernel, by decide +kernel⟩, List.mem_of_getElem? (i := 650) (by decide +kernel), List.mem_of_getElem? (i := 801) (by decide +kernel), List.mem_of_getElem? (i := 802) (by decide +kernel)⟩
theorem lw_p25 : lw_okq (⟨"LetHolesModel", "of", "(II)I"⟩, 28) := ⟨⟨by decide +kernel, by decide +kernel⟩, List.mem_of_getElem? (i := 650) (by decide +kernel), List.mem_of_getElem? (i := 805) (by decide +kernel), List.mem_of_getElem? (i := 806) (by decide +kernel)⟩
theorem lw_p26 : lw_okq (⟨"LetHolesModel", "keepAct", "()V"⟩, 28) := ⟨⟨by decide +kernel, by decide +kernel⟩, List.mem_of_getElem? (i := 650) (by decide +kernel), List.mem_of_getElem? (i := 820) (by decide +kernel), List.mem_of_getElem? (i := 821) (by decide +kernel)⟩
theorem lw_p27 : lw_okq (⟨"LetHolesModel", "passOn", "(I)I"⟩, 28) := ⟨⟨by decide +kernel, by decide +kernel⟩, List.mem_of_getElem? (i := 650) (by decide +kernel), List.mem_of_getElem? (i := 824) (by decide +kernel), List.mem_of_getElem? (i := 825) (by decide +kernel)⟩
theorem lw_p28 : lw_okq (⟨"LetHolesModel", "grow", "(II)V"⟩, 28) := ⟨⟨by decide +kernel, by decide +kernel⟩, List.mem_of_getElem? (i := 650) (by decide +kernel), List.mem_of_getElem? (i := 828) (by decide +kernel), List.mem_of_getElem? (i := 829) (by decide +kernel)⟩
theorem lw_p29 : lw_okq (⟨"LetHolesModel", "freePaste", "(I)I"⟩, 28) := ⟨⟨by decide +kernel, by decide +kernel⟩, List.mem_of_getElem? (i := 650) (by decide +kernel), List.mem_of_getElem? (i := 832) (by decide +kernel), List.mem_of_getElem? (i := 833) (by decide +kernel)⟩
theorem lw_p30 : lw_okq (⟨"LetHolesModel", "isMonks", "(I)Z"⟩, 28) := ⟨⟨by decide +kernel, by decide +kernel⟩, List.mem_of_getElem? (i := 650) (by decide +kernel), List.mem_of_getElem? (i := 836) (by decide +kernel), List.mem_of_getElem? (i := 837) (by decide +kernel)⟩
theorem lw_p31 : lw_okq (⟨"LetHolesModel", "takes", "(III)I"⟩, 28) := ⟨⟨by decide +kernel, by decide +kernel⟩, List.mem_of_getElem? (i := 650) (by decide +kernel), List.mem_of_getElem? (i := 840) (by decide +kernel), List.mem_of_getElem? (i := 841) (by decide +kernel)⟩
def lw_privs_2 : List (MethodName × Nat) := [(⟨"LetHoles", "largestEstate", "(I)I"⟩, 12), (⟨"LetHoles", "slotAt", "(I)LLetHoles$Wheel;"⟩, 12), (⟨"LetHolesModel", "readText", "()I"⟩, 28), (⟨"LetHolesModel", "readPart", "(I)V"⟩, 28), (⟨"LetHolesModel", "told", "(II)I"⟩, 28), (⟨"LetHolesModel", "isOwner", "(I)Z"⟩, 28), (⟨"LetHolesModel", "estate", "(I)I"⟩, 28), (⟨"LetHolesModel", "ownerOf", "(II)I"⟩, 28), (⟨"LetHolesModel", "isHole", "(I)Z"⟩, 28), (⟨"LetHolesModel", "of", "(II)I"⟩, 28), (⟨"LetHolesModel", "keepAct", "()V"⟩, 28), (⟨"LetHolesModel", "passOn", "(I)I"⟩, 28), (⟨"LetHolesModel", "grow", "(II)V"⟩, 28), (⟨"LetHolesModel", "freePaste", "(I)I"⟩, 28), (⟨"LetHolesModel", "isMonks", "(I)Z"⟩, 28), (⟨"LetHolesModel", "takes", "(III)I"⟩, 28)]
theorem lw_r2 : ∀ q ∈ lw_privs_2, lw_okq q := List.forall_mem_cons.mpr ⟨lw_p16, List.forall_mem_cons.mpr ⟨lw_p17, List.forall_mem_cons.mpr ⟨lw_p18, List.forall_mem_cons.mpr ⟨lw_p19, List.forall_mem_cons.mpr ⟨lw_p20, List.forall_mem_cons.mpr ⟨lw_p21, List.forall_mem_cons.mpr ⟨lw_p22, List.forall_mem_cons.mpr ⟨lw_p23, List.forall_mem_cons.mpr ⟨lw_p24, List.forall_mem_cons.mpr ⟨lw_p25, List.forall_mem_cons.mpr ⟨lw_p26, List.forall_mem_cons.mpr ⟨lw_p27, List.forall_mem_cons.mpr ⟨lw_p28, List.forall_mem_cons.mpr ⟨lw_p29, List.forall_mem_cons.mpr ⟨lw_p30, List.forall_mem_cons.mpr ⟨lw_p31, fun _ h => absurd h List.not_mem_nil⟩⟩⟩⟩⟩⟩⟩⟩⟩⟩⟩⟩⟩⟩⟩⟩
theorem lw_p32 : lw_okq (⟨"LetHolesModel", "pay", "(IIII)V"⟩, 28) := ⟨⟨by decide +kernel, by decide +kernel⟩, List.mem_of_getElem? (i := 650) (by decide +kernel), List.mem_of_getElem? (i := 850) (by decide +kernel), List.mem_of_getElem? (i := 851) (by decide +kernel)⟩
theorem lw_p33 : lw_okq (⟨"LetHolesModel", "wed", "(I)Z"⟩, 28) := ⟨⟨by decide +kernel, by decide +kernel⟩, List.mem_of_getElem? (i := 650) (by decide +kernel), List.mem_of_getElem? (i := 854) (by decide +kernel), List.mem_of_getElem? (i := 855) (by decide +kernel)⟩
theorem lw_p34 : lw_okq (⟨"LetHolesModel", "join", "(III)V"⟩, 28) := ⟨⟨by decide +kernel, by decide +kernel⟩, List.mem_of_getElem? (i := 650) (by decide +kernel), List.mem_of_getElem? (i := 858) (by decide +kernel), List.mem_of_getElem? (i := 859) (by decide +kernel)⟩
theorem lw_p35 : lw_okq (⟨"LetHolesModel", "endHole", "(II)V"⟩, 28) := ⟨⟨by decide +kernel, by decide +kernel⟩, List.mem_of_getElem? (i := 650) (by decide +kernel), List.mem_of_getElem? (i := 862) (by decide +kernel), List.mem_of_getElem? (i := 863) (by decide +kernel)⟩
theorem lw_p36 : lw_okq (⟨"LetHolesModel", "canEat", "(III)Z"⟩, 28) := ⟨⟨by decide +kernel, by decide +kernel⟩, List.mem_of_getElem? (i := 650) (by decide +kernel), List.mem_of_getElem? (i := 870) (by decide +kernel), List.mem_of_getElem? (i := 871) (by decide +kernel)⟩
theorem lw_p37 : lw_okq (⟨"LetHolesModel", "eatOn", "(III)I"⟩, 28) := ⟨⟨by decide +kernel, by decide +kernel⟩, List.mem_of_getElem? (i := 650) (by decide +kernel), List.mem_of_getElem? (i := 874) (by decide +kernel), List.mem_of_getElem? (i := 875) (by decide +kernel)⟩
theorem lw_p38 : lw_okq (⟨"LetHolesModel", "canLet", "(III)Z"⟩, 28) := ⟨⟨by decide +kernel, by decide +kernel⟩, List.mem_of_getElem? (i := 650) (by decide +kernel), List.mem_of_getElem? (i := 882) (by decide +kernel), List.mem_of_getElem? (i := 883) (by decide +kernel)⟩
theorem lw_p39 : lw_okq (⟨"LetHolesModel", "canSell", "(III)Z"⟩, 28) := ⟨⟨by decide +kernel, by decide +kernel⟩, List.mem_of_getElem? (i := 650) (by decide +kernel), List.mem_of_getElem? (i := 890) (by decide +kernel), List.mem_of_getElem? (i := 891) (by decide +kernel)⟩
theorem lw_p40 : lw_okq (⟨"LetHolesModel", "sellOn", "(III)I"⟩, 28) := ⟨⟨by decide +kernel, by decide +kernel⟩, List.mem_of_getElem? (i := 650) (by decide +kernel), List.mem_of_getElem? (i := 894) (by decide +kernel), List.mem_of_getElem? (i := 895) (by decide +kernel)⟩
theorem lw_p41 : lw_okq (⟨"LetHolesModel", "costOf", "(I)I"⟩, 28) := ⟨⟨by decide +kernel, by decide +kernel⟩, List.mem_of_getElem? (i := 650) (by decide +kernel), List.mem_of_getElem? (i := 913) (by decide +kernel), List.mem_of_getElem? (i := 914) (by decide +kernel)⟩
theorem lw_p42 : lw_okq (⟨"LetHolesModel", "ease", "(I)Z"⟩, 28) := ⟨⟨by decide +kernel, by decide +kernel⟩, List.mem_of_getElem? (i := 650) (by decide +kernel), List.mem_of_getElem? (i := 917) (by decide +kernel), List.mem_of_getElem? (i := 918) (by decide +kernel)⟩
theorem lw_p43 : lw_okq (⟨"LetHolesModel", "layTrial", "()V"⟩, 28) := ⟨⟨by decide +kernel, by decide +kernel⟩, List.mem_of_getElem? (i := 650) (by decide +kernel), List.mem_of_getElem? (i := 925) (by decide +kernel), List.mem_of_getElem? (i := 926) (by decide +kernel)⟩
theorem lw_p44 : lw_okq (⟨"LetHolesModel", "alive", "(I)I"⟩, 28) := ⟨⟨by decide +kernel, by decide +kernel⟩, List.mem_of_getElem? (i := 650) (by decide +kernel), List.mem_of_getElem? (i := 934) (by decide +kernel), List.mem_of_getElem? (i := 935) (by decide +kernel)⟩
theorem lw_p45 : lw_okq (⟨"LetHolesModel", "tryThing", "(III)Z"⟩, 28) := ⟨⟨by decide +kernel, by decide +kernel⟩, List.mem_of_getElem? (i := 650) (by decide +kernel), List.mem_of_getElem? (i := 951) (by decide +kernel), List.mem_of_getElem? (i := 952) (by decide +kernel)⟩
theorem lw_p46 : lw_okq (⟨"LetHolesModel", "mayBegin", "(II)Z"⟩, 28) := ⟨⟨by decide +kernel, by decide +kernel⟩, List.mem_of_getElem? (i := 650) (by decide +kernel), List.mem_of_getElem? (i := 968) (by decide +kernel), List.mem_of_getElem? (i := 969) (by decide +kernel)⟩
theorem lw_p47 : lw_okq (⟨"LetHolesModel", "largest", "(I)I"⟩, 28) := ⟨⟨by decide +kernel, by decide +kernel⟩, List.mem_of_getElem? (i := 650) (by decide +kernel), List.mem_of_getElem? (i := 979) (by decide +kernel), List.mem_of_getElem? (i := 980) (by decide +kernel)⟩
def lw_privs_3 : List (MethodName × Nat) := [(⟨"LetHolesModel", "pay", "(IIII)V"⟩, 28), (⟨"LetHolesModel", "wed", "(I)Z"⟩, 28), (⟨"LetHolesModel", "join", "(III)V"⟩, 28), (⟨"LetHolesModel", "endHole", "(II)V"⟩, 28), (⟨"LetHolesModel", "canEat", "(III)Z"⟩, 28), (⟨"LetHolesModel", "eatOn", "(III)I"⟩, 28), (⟨"LetHolesModel", "canLet", "(III)Z"⟩, 28), (⟨"LetHolesModel", "canSell", "(III)Z"⟩, 28), (⟨"LetHolesModel", "sellOn", "(III)I"⟩, 28), (⟨"LetHolesModel", "costOf", "(I)I"⟩, 28), (⟨"LetHolesModel", "ease", "(I)Z"⟩, 28), (⟨"LetHolesModel", "layTrial", "()V"⟩, 28), (⟨"LetHolesModel", "alive", "(I)I"⟩, 28), (⟨"LetHolesModel", "tryThing", "(III)Z"⟩, 28), (⟨"LetHolesModel", "mayBegin", "(II)Z"⟩, 28), (⟨"LetHolesModel", "largest", "(I)I"⟩, 28)]
theorem lw_r3 : ∀ q ∈ lw_privs_3, lw_okq q := List.forall_mem_cons.mpr ⟨lw_p32, List.forall_mem_cons.mpr ⟨lw_p33, List.forall_mem_cons.mpr ⟨lw_p34, List.forall_mem_cons.mpr ⟨lw_p35, List.forall_mem_cons.mpr ⟨lw_p36, List.forall_mem_cons.mpr ⟨lw_p37, List.forall_mem_cons.mpr ⟨lw_p38, List.forall_mem_cons.mpr ⟨lw_p39, List.forall_mem_cons.mpr ⟨lw_p40, List.forall_mem_cons.mpr ⟨lw_p41, List.forall_mem_cons.mpr ⟨lw_p42, List.forall_mem_cons.mpr ⟨lw_p43, List.forall_mem_cons.mpr ⟨lw_p44, List.forall_mem_cons.mpr ⟨lw_p45, List.forall_mem_cons.mpr ⟨lw_p46, List.forall_mem_cons.mpr ⟨lw_p47, fun _ h => absurd h List.not_mem_nil⟩⟩⟩⟩⟩⟩⟩⟩⟩⟩⟩⟩⟩⟩⟩⟩
theorem lw_p48 : lw_okq (⟨"LetHolesModel", "gain", "(III)I"⟩, 28) := ⟨⟨by decide +kernel, by decide +kernel⟩, List.mem_of_getElem? (i := 650) (by decide +kernel), List.mem_of_getElem? (i := 990) (by decide +kernel), List.mem_of_getElem? (i := 991) (by decide +kernel)⟩
theorem lw_p49 : lw_okq (⟨"LetHolesModel", "holeCells", "(I)I"⟩, 28) := ⟨⟨by decide +kernel, by decide +kernel⟩, List.mem_of_getElem? (i := 650) (by decide +kernel), List.mem_of_getElem? (i := 994) (by decide +kernel), List.mem_of_getElem? (i := 995) (by decide +kernel)⟩
def lw_privs_4 : List (MethodName × Nat) := [(⟨"LetHolesModel", "gain", "(III)I"⟩, 28), (⟨"LetHolesModel", "holeCells", "(I)I"⟩, 28)]
theorem lw_r4 : ∀ q ∈ lw_privs_4, lw_okq q := List.forall_mem_cons.mpr ⟨lw_p48, List.forall_mem_cons.mpr ⟨lw_p49, fun _ h => absurd h List.not_mem_nil⟩⟩
def lw_privs : List (MethodName × Nat) := lw_privs_1 ++ (lw_privs_2 ++ (lw_privs_3 ++ (lw_privs_4)))
def lw_tbl : List Cond := k2_sels lw_privs ++ tables_1
theorem lw_privs_ok : ∀ q ∈ lw_privs, lw_okq q := by
  show ∀ q ∈ lw_privs_1 ++ (lw_privs_2 ++ (lw_privs_3 ++ (lw_privs_4))), lw_okq q
  exact List.forall_mem_append.mpr ⟨lw_r1, List.forall_mem_append.mpr ⟨lw_r2, List.forall_mem_append.mpr ⟨lw_r3, lw_r4⟩⟩⟩
end
section
/-! ===== BEGIN printed: names, fields, word lists, decode rows ===== -/
def RX0 : String := "LetHoles$Acts"
def TX0 : u_T := fun k => match k with
  | 0 => ("LetHoles$Acts", "before", "[LLetHoles$Wheel;", true)
  | _ => ("LetHoles$Acts", "size", "I", false)
def tyX0 : Nat → FieldType := fun k => match k with
  | 0 => .array (.object "LetHoles$Wheel")
  | _ => .int
abbrev wsX00 : List Cond := u_ws RX0 TX0 2
theorem nmX0 : ∀ a, a < 2 → ∀ b, b < 2 → a ≠ b → (TX0 a).2.1 ≠ (TX0 b).2.1 := by decide +kernel
theorem tyX0_ok : ∀ k, k < 2 → parseFieldDescriptor (TX0 k).2.2.1 = some (tyX0 k) := by decide +kernel
abbrev cX0_init : ByteArray := prog_2_method_1_code
def yX0_init : MethodName := ⟨RX0, "<init>", "()V"⟩
abbrev cX0_forgetAll : ByteArray := prog_2_method_2_code
def yX0_forgetAll : MethodName := ⟨RX0, "forgetAll", "()V"⟩
abbrev cX0_remember : ByteArray := prog_2_method_3_code
def yX0_remember : MethodName := ⟨RX0, "remember", "(LLetHoles$Wheel;)V"⟩
abbrev cX0_forgetFirst : ByteArray := prog_2_method_4_code
def yX0_forgetFirst : MethodName := ⟨RX0, "forgetFirst", "()V"⟩
abbrev cX0_takeBack : ByteArray := prog_2_method_5_code
def yX0_takeBack : MethodName := ⟨RX0, "takeBack", "(LLetHoles$Wheel;)V"⟩
abbrev cX0_wheelAt : ByteArray := prog_2_method_6_code
def yX0_wheelAt : MethodName := ⟨RX0, "wheelAt", "(I)LLetHoles$Wheel;"⟩
def RX1 : String := "LetHoles$Deeds"
def TX1 : u_T := fun k => match k with
  | 0 => ("LetHoles$Deeds", "owners", "I", false)
  | 1 => ("LetHoles$Deeds", "holes", "I", false)
  | 2 => ("LetHoles$Deeds", "ownerKind", "[I", true)
  | 3 => ("LetHoles$Deeds", "rowOwner", "[I", true)
  | 4 => ("LetHoles$Deeds", "holeKind", "[I", true)
  | 5 => ("LetHoles$Deeds", "holeOwner", "[I", true)
  | 6 => ("LetHoles$Deeds", "holeCell", "[I", true)
  | 7 => ("LetHoles$Deeds", "monkCells", "I", false)
  | 8 => ("LetHoles$Deeds", "rowsTold", "I", false)
  | 9 => ("LetHoles$Deeds", "cellsTold", "I", false)
  | 10 => ("LetHoles$Deeds", "part", "I", false)
  | 11 => ("LetHoles$Deeds", "place", "I", false)
  | 12 => ("LetHoles$Deeds", "toldFirst", "I", false)
  | _ => ("LetHoles$Deeds", "toldSecond", "I", false)
def tyX1 : Nat → FieldType := fun k => match k with
  | 0 => .int
  | 1 => .int
  | 2 => .array .int
  | 3 => .array .int
  | 4 => .array .int
  | 5 => .array .int
  | 6 => .array .int
  | 7 => .int
  | 8 => .int
  | 9 => .int
  | 10 => .int
  | 11 => .int
  | 12 => .int
  | _ => .int
abbrev wsX10 : List Cond := u_ws RX1 TX1 14
theorem nmX1 : ∀ a, a < 14 → ∀ b, b < 14 → a ≠ b → (TX1 a).2.1 ≠ (TX1 b).2.1 := by decide +kernel
theorem tyX1_ok : ∀ k, k < 14 → parseFieldDescriptor (TX1 k).2.2.1 = some (tyX1 k) := by decide +kernel
abbrev cX1_init : ByteArray := prog_3_method_1_code
def yX1_init : MethodName := ⟨RX1, "<init>", "()V"⟩
abbrev cX1_hasOwner : ByteArray := prog_3_method_2_code
def yX1_hasOwner : MethodName := ⟨RX1, "hasOwner", "(I)Z"⟩
abbrev cX1_hasHole : ByteArray := prog_3_method_3_code
def yX1_hasHole : MethodName := ⟨RX1, "hasHole", "(I)Z"⟩
abbrev cX1_rowsOf : ByteArray := prog_3_method_4_code
def yX1_rowsOf : MethodName := ⟨RX1, "rowsOf", "(I)I"⟩
abbrev cX1_rowCellsOf : ByteArray := prog_3_method_5_code
def yX1_rowCellsOf : MethodName := ⟨RX1, "rowCellsOf", "(I)I"⟩
abbrev cX1_turnsOf : ByteArray := prog_3_method_6_code
def yX1_turnsOf : MethodName := ⟨RX1, "turnsOf", "(I)I"⟩
abbrev cX1_tellLoneHole : ByteArray := prog_3_method_7_code
def yX1_tellLoneHole : MethodName := ⟨RX1, "tellLoneHole", "(I)V"⟩
abbrev cX1_forget : ByteArray := prog_3_method_8_code
def yX1_forget : MethodName := ⟨RX1, "forget", "()V"⟩
abbrev cX1_readAll : ByteArray := prog_3_method_9_code
def yX1_readAll : MethodName := ⟨RX1, "readAll", "([II)I"⟩
abbrev cX1_reads : ByteArray := prog_3_method_10_code
def yX1_reads : MethodName := ⟨RX1, "reads", "(I)Z"⟩
abbrev cX1_opensPart : ByteArray := prog_3_method_11_code
def yX1_opensPart : MethodName := ⟨RX1, "opensPart", "(I)Z"⟩
abbrev cX1_readsOwner : ByteArray := prog_3_method_12_code
def yX1_readsOwner : MethodName := ⟨RX1, "readsOwner", "(I)Z"⟩
abbrev cX1_readsRow : ByteArray := prog_3_method_13_code
def yX1_readsRow : MethodName := ⟨RX1, "readsRow", "(I)Z"⟩
abbrev cX1_readsHole : ByteArray := prog_3_method_14_code
def yX1_readsHole : MethodName := ⟨RX1, "readsHole", "(I)Z"⟩
abbrev cX1_addHole : ByteArray := prog_3_method_15_code
def yX1_addHole : MethodName := ⟨RX1, "addHole", "(III)V"⟩
def RX2 : String := "LetHoles$Grid"
def TX2 : u_T := fun k => match k with
  | _ => ("", "", "", false)
def tyX2 : Nat → FieldType := fun k => match k with
  | _ => .int
abbrev wsX20 : List Cond := u_ws RX2 TX2 0
theorem nmX2 : ∀ a, a < 0 → ∀ b, b < 0 → a ≠ b → (TX2 a).2.1 ≠ (TX2 b).2.1 := by decide +kernel
theorem tyX2_ok : ∀ k, k < 0 → parseFieldDescriptor (TX2 k).2.2.1 = some (tyX2 k) := by decide +kernel
abbrev cX2_hasCell : ByteArray := prog_4_method_2_code
def yX2_hasCell : MethodName := ⟨RX2, "hasCell", "(I)Z"⟩
abbrev cX2_bitOf : ByteArray := prog_4_method_3_code
def yX2_bitOf : MethodName := ⟨RX2, "bitOf", "(I)I"⟩
abbrev cX2_rowCells : ByteArray := prog_4_method_4_code
def yX2_rowCells : MethodName := ⟨RX2, "rowCells", "(I)I"⟩
abbrev cX2_cellsLeftOf : ByteArray := prog_4_method_5_code
def yX2_cellsLeftOf : MethodName := ⟨RX2, "cellsLeftOf", "(I)I"⟩
abbrev cX2_leastOf : ByteArray := prog_4_method_6_code
def yX2_leastOf : MethodName := ⟨RX2, "leastOf", "(I)I"⟩
abbrev cX2_beside : ByteArray := prog_4_method_7_code
def yX2_beside : MethodName := ⟨RX2, "beside", "(I)I"⟩
abbrev cX2_columnsOf : ByteArray := prog_4_method_8_code
def yX2_columnsOf : MethodName := ⟨RX2, "columnsOf", "(I)I"⟩
abbrev cX2_flood : ByteArray := prog_4_method_9_code
def yX2_flood : MethodName := ⟨RX2, "flood", "(II)I"⟩
abbrev cX2_largestPatch : ByteArray := prog_4_method_10_code
def yX2_largestPatch : MethodName := ⟨RX2, "largestPatch", "(I)I"⟩
abbrev cX2_steps : ByteArray := prog_4_method_11_code
def yX2_steps : MethodName := ⟨RX2, "steps", "(III)I"⟩
abbrev cX2_fewestGnawed : ByteArray := prog_4_method_12_code
def yX2_fewestGnawed : MethodName := ⟨RX2, "fewestGnawed", "(IIII)I"⟩
def RX3 : String := "LetHoles$Rows"
def TX3 : u_T := fun k => match k with
  | _ => ("", "", "", false)
def tyX3 : Nat → FieldType := fun k => match k with
  | _ => .int
abbrev wsX30 : List Cond := u_ws RX3 TX3 0
theorem nmX3 : ∀ a, a < 0 → ∀ b, b < 0 → a ≠ b → (TX3 a).2.1 ≠ (TX3 b).2.1 := by decide +kernel
theorem tyX3_ok : ∀ k, k < 0 → parseFieldDescriptor (TX3 k).2.2.1 = some (tyX3 k) := by decide +kernel
abbrev cX3_get : ByteArray := prog_5_method_2_code
def yX3_get : MethodName := ⟨RX3, "get", "([II)I"⟩
abbrev cX3_put : ByteArray := prog_5_method_3_code
def yX3_put : MethodName := ⟨RX3, "put", "([III)V"⟩
abbrev cX3_add : ByteArray := prog_5_method_4_code
def yX3_add : MethodName := ⟨RX3, "add", "([III)V"⟩
def RX4 : String := "LetHoles$Tasted"
def TX4 : u_T := fun k => match k with
  | 0 => ("LetHoles$Tasted", "cells", "[I", true)
  | 1 => ("LetHoles$Tasted", "daysOf", "[I", true)
  | 2 => ("LetHoles$Tasted", "wasHole", "[Z", true)
  | _ => ("LetHoles$Tasted", "size", "I", false)
def tyX4 : Nat → FieldType := fun k => match k with
  | 0 => .array .int
  | 1 => .array .int
  | 2 => .array .boolean
  | _ => .int
abbrev wsX40 : List Cond := u_ws RX4 TX4 4
theorem nmX4 : ∀ a, a < 4 → ∀ b, b < 4 → a ≠ b → (TX4 a).2.1 ≠ (TX4 b).2.1 := by decide +kernel
theorem tyX4_ok : ∀ k, k < 4 → parseFieldDescriptor (TX4 k).2.2.1 = some (tyX4 k) := by decide +kernel
abbrev cX4_init : ByteArray := prog_6_method_1_code
def yX4_init : MethodName := ⟨RX4, "<init>", "()V"⟩
abbrev cX4_addOne : ByteArray := prog_6_method_2_code
def yX4_addOne : MethodName := ⟨RX4, "addOne", "(IIZ)V"⟩
abbrev cX4_agrees : ByteArray := prog_6_method_3_code
def yX4_agrees : MethodName := ⟨RX4, "agrees", "(II)Z"⟩
def RX5 : String := "LetHoles$Wheel"
def TX5 : u_T := fun k => match k with
  | 0 => ("LetHoles$Wheel", "cellsOf", "[I", true)
  | 1 => ("LetHoles$Wheel", "ownerOf", "[I", true)
  | 2 => ("LetHoles$Wheel", "tenantOf", "[I", true)
  | 3 => ("LetHoles$Wheel", "balance", "[I", true)
  | 4 => ("LetHoles$Wheel", "eaten", "I", false)
  | _ => ("LetHoles$Wheel", "days", "I", false)
def tyX5 : Nat → FieldType := fun k => match k with
  | 0 => .array .int
  | 1 => .array .int
  | 2 => .array .int
  | 3 => .array .int
  | 4 => .int
  | _ => .int
abbrev wsX50 : List Cond := u_ws RX5 TX5 6
theorem nmX5 : ∀ a, a < 6 → ∀ b, b < 6 → a ≠ b → (TX5 a).2.1 ≠ (TX5 b).2.1 := by decide +kernel
theorem tyX5_ok : ∀ k, k < 6 → parseFieldDescriptor (TX5 k).2.2.1 = some (tyX5 k) := by decide +kernel
abbrev cX5_init : ByteArray := prog_7_method_1_code
def yX5_init : MethodName := ⟨RX5, "<init>", "()V"⟩
abbrev cX5_copyFrom : ByteArray := prog_7_method_2_code
def yX5_copyFrom : MethodName := ⟨RX5, "copyFrom", "(LLetHoles$Wheel;)V"⟩
abbrev cX5_beginWith : ByteArray := prog_7_method_3_code
def yX5_beginWith : MethodName := ⟨RX5, "beginWith", "(LLetHoles$Deeds;)V"⟩
abbrev cX5_putLoneHole : ByteArray := prog_7_method_4_code
def yX5_putLoneHole : MethodName := ⟨RX5, "putLoneHole", "(I)V"⟩
abbrev cX5_cellsOfHole : ByteArray := prog_7_method_5_code
def yX5_cellsOfHole : MethodName := ⟨RX5, "cellsOfHole", "(I)I"⟩
abbrev cX5_sizeOfHole : ByteArray := prog_7_method_6_code
def yX5_sizeOfHole : MethodName := ⟨RX5, "sizeOfHole", "(I)I"⟩
abbrev cX5_isGone : ByteArray := prog_7_method_7_code
def yX5_isGone : MethodName := ⟨RX5, "isGone", "(I)Z"⟩
abbrev cX5_holesLeft : ByteArray := prog_7_method_8_code
def yX5_holesLeft : MethodName := ⟨RX5, "holesLeft", "()I"⟩
abbrev cX5_holesOf : ByteArray := prog_7_method_9_code
def yX5_holesOf : MethodName := ⟨RX5, "holesOf", "(I)I"⟩
abbrev cX5_cellsOfHoles : ByteArray := prog_7_method_10_code
def yX5_cellsOfHoles : MethodName := ⟨RX5, "cellsOfHoles", "(I)I"⟩
abbrev cX5_holeCells : ByteArray := prog_7_method_11_code
def yX5_holeCells : MethodName := ⟨RX5, "holeCells", "()I"⟩
abbrev cX5_holeCellsOf : ByteArray := prog_7_method_12_code
def yX5_holeCellsOf : MethodName := ⟨RX5, "holeCellsOf", "(I)I"⟩
abbrev cX5_openCells : ByteArray := prog_7_method_13_code
def yX5_openCells : MethodName := ⟨RX5, "openCells", "()I"⟩
abbrev cX5_openBut : ByteArray := prog_7_method_14_code
def yX5_openBut : MethodName := ⟨RX5, "openBut", "(I)I"⟩
abbrev cX5_pasteCells : ByteArray := prog_7_method_15_code
def yX5_pasteCells : MethodName := ⟨RX5, "pasteCells", "()I"⟩
abbrev cX5_softPaste : ByteArray := prog_7_method_16_code
def yX5_softPaste : MethodName := ⟨RX5, "softPaste", "(LLetHoles$Deeds;)I"⟩
abbrev cX5_ownedBy : ByteArray := prog_7_method_17_code
def yX5_ownedBy : MethodName := ⟨RX5, "ownedBy", "(LLetHoles$Deeds;I)I"⟩
abbrev cX5_stuffAt : ByteArray := prog_7_method_18_code
def yX5_stuffAt : MethodName := ⟨RX5, "stuffAt", "(I)I"⟩
abbrev cX5_holeAt : ByteArray := prog_7_method_19_code
def yX5_holeAt : MethodName := ⟨RX5, "holeAt", "(I)I"⟩
abbrev cX5_ownerAt : ByteArray := prog_7_method_20_code
def yX5_ownerAt : MethodName := ⟨RX5, "ownerAt", "(LLetHoles$Deeds;I)I"⟩
abbrev cX5_pay : ByteArray := prog_7_method_21_code
def yX5_pay : MethodName := ⟨RX5, "pay", "(III)V"⟩
abbrev cX5_passDay : ByteArray := prog_7_method_22_code
def yX5_passDay : MethodName := ⟨RX5, "passDay", "(LLetHoles$Deeds;)I"⟩
abbrev cX5_takeLeast : ByteArray := prog_7_method_23_code
def yX5_takeLeast : MethodName := ⟨RX5, "takeLeast", "(LLetHoles$Deeds;I)V"⟩
abbrev cX5_joinFirstPair : ByteArray := prog_7_method_24_code
def yX5_joinFirstPair : MethodName := ⟨RX5, "joinFirstPair", "()Z"⟩
abbrev cX5_joinPair : ByteArray := prog_7_method_25_code
def yX5_joinPair : MethodName := ⟨RX5, "joinPair", "(II)V"⟩
abbrev cX5_endOwning : ByteArray := prog_7_method_26_code
def yX5_endOwning : MethodName := ⟨RX5, "endOwning", "(I)V"⟩
abbrev cX5_payRent : ByteArray := prog_7_method_27_code
def yX5_payRent : MethodName := ⟨RX5, "payRent", "(LLetHoles$Deeds;I)V"⟩
abbrev cX5_refusalToEat : ByteArray := prog_7_method_28_code
def yX5_refusalToEat : MethodName := ⟨RX5, "refusalToEat", "(LLetHoles$Deeds;II)I"⟩
abbrev cX5_eatCell : ByteArray := prog_7_method_29_code
def yX5_eatCell : MethodName := ⟨RX5, "eatCell", "(LLetHoles$Deeds;II)I"⟩
abbrev cX5_refusalToLet : ByteArray := prog_7_method_30_code
def yX5_refusalToLet : MethodName := ⟨RX5, "refusalToLet", "(LLetHoles$Deeds;II)I"⟩
abbrev cX5_letHole : ByteArray := prog_7_method_31_code
def yX5_letHole : MethodName := ⟨RX5, "letHole", "(II)I"⟩
abbrev cX5_refusalToSell : ByteArray := prog_7_method_32_code
def yX5_refusalToSell : MethodName := ⟨RX5, "refusalToSell", "(LLetHoles$Deeds;II)I"⟩
abbrev cX5_sellHole : ByteArray := prog_7_method_33_code
def yX5_sellHole : MethodName := ⟨RX5, "sellHole", "(II)I"⟩
abbrev cX5_doTold : ByteArray := prog_7_method_34_code
def yX5_doTold : MethodName := ⟨RX5, "doTold", "(LLetHoles$Deeds;I)Z"⟩
def RX6 : String := "LetHoles"
def TX6 : u_T := fun k => match k with
  | 0 => ("LetHoles", "text", "[I", true)
  | 1 => ("LetHoles", "letters", "I", false)
  | 2 => ("LetHoles", "deeds", "LLetHoles$Deeds;", false)
  | 3 => ("LetHoles", "draft", "LLetHoles$Deeds;", false)
  | 4 => ("LetHoles", "lone", "LLetHoles$Deeds;", true)
  | 5 => ("LetHoles", "wheel", "LLetHoles$Wheel;", true)
  | 6 => ("LetHoles", "trial", "LLetHoles$Wheel;", true)
  | 7 => ("LetHoles", "acts", "LLetHoles$Acts;", true)
  | 8 => ("LetHoles", "slots", "[LLetHoles$Wheel;", true)
  | 9 => ("LetHoles", "keptSlots", "I", false)
  | 10 => ("LetHoles", "tasted", "LLetHoles$Tasted;", true)
  | _ => ("LetHoles", "theSeed", "J", false)
def tyX6 : Nat → FieldType := fun k => match k with
  | 0 => .array .int
  | 1 => .int
  | 2 => .object "LetHoles$Deeds"
  | 3 => .object "LetHoles$Deeds"
  | 4 => .object "LetHoles$Deeds"
  | 5 => .object "LetHoles$Wheel"
  | 6 => .object "LetHoles$Wheel"
  | 7 => .object "LetHoles$Acts"
  | 8 => .array (.object "LetHoles$Wheel")
  | 9 => .int
  | 10 => .object "LetHoles$Tasted"
  | _ => .long
abbrev wsX60 : List Cond := u_ws RX6 TX6 12
theorem nmX6 : ∀ a, a < 12 → ∀ b, b < 12 → a ≠ b → (TX6 a).2.1 ≠ (TX6 b).2.1 := by decide +kernel
theorem tyX6_ok : ∀ k, k < 12 → parseFieldDescriptor (TX6 k).2.2.1 = some (tyX6 k) := by decide +kernel
abbrev cX6_init : ByteArray := prog_1_method_1_code
def yX6_init : MethodName := ⟨RX6, "<init>", "()V"⟩
abbrev cX6_write : ByteArray := prog_1_method_2_code
def yX6_write : MethodName := ⟨RX6, "write", "(I)I"⟩
abbrev cX6_wipe : ByteArray := prog_1_method_3_code
def yX6_wipe : MethodName := ⟨RX6, "wipe", "()I"⟩
abbrev cX6_fault : ByteArray := prog_1_method_4_code
def yX6_fault : MethodName := ⟨RX6, "fault", "()I"⟩
abbrev cX6_dairy : ByteArray := prog_1_method_5_code
def yX6_dairy : MethodName := ⟨RX6, "dairy", "()I"⟩
abbrev cX6_owner : ByteArray := prog_1_method_6_code
def yX6_owner : MethodName := ⟨RX6, "owner", "(II)I"⟩
abbrev cX6_hole : ByteArray := prog_1_method_7_code
def yX6_hole : MethodName := ⟨RX6, "hole", "(II)I"⟩
abbrev cX6_cell : ByteArray := prog_1_method_8_code
def yX6_cell : MethodName := ⟨RX6, "cell", "(II)I"⟩
abbrev cX6_day : ByteArray := prog_1_method_9_code
def yX6_day : MethodName := ⟨RX6, "day", "()I"⟩
abbrev cX6_eat : ByteArray := prog_1_method_10_code
def yX6_eat : MethodName := ⟨RX6, "eat", "(II)I"⟩
abbrev cX6_let : ByteArray := prog_1_method_11_code
def yX6_let : MethodName := ⟨RX6, "let", "(II)I"⟩
abbrev cX6_sell : ByteArray := prog_1_method_12_code
def yX6_sell : MethodName := ⟨RX6, "sell", "(II)I"⟩
abbrev cX6_undo : ByteArray := prog_1_method_13_code
def yX6_undo : MethodName := ⟨RX6, "undo", "()I"⟩
abbrev cX6_way : ByteArray := prog_1_method_14_code
def yX6_way : MethodName := ⟨RX6, "way", "(II)I"⟩
abbrev cX6_gnaw : ByteArray := prog_1_method_15_code
def yX6_gnaw : MethodName := ⟨RX6, "gnaw", "(II)I"⟩
abbrev cX6_wedding : ByteArray := prog_1_method_16_code
def yX6_wedding : MethodName := ⟨RX6, "wedding", "(II)I"⟩
abbrev cX6_ahead : ByteArray := prog_1_method_17_code
def yX6_ahead : MethodName := ⟨RX6, "ahead", "(II)I"⟩
abbrev cX6_cut : ByteArray := prog_1_method_18_code
def yX6_cut : MethodName := ⟨RX6, "cut", "(III)I"⟩
abbrev cX6_judge : ByteArray := prog_1_method_19_code
def yX6_judge : MethodName := ⟨RX6, "judge", "(IJ)I"⟩
abbrev cX6_taste : ByteArray := prog_1_method_20_code
def yX6_taste : MethodName := ⟨RX6, "taste", "(III)I"⟩
abbrev cX6_rinse : ByteArray := prog_1_method_21_code
def yX6_rinse : MethodName := ⟨RX6, "rinse", "()I"⟩
abbrev cX6_began : ByteArray := prog_1_method_22_code
def yX6_began : MethodName := ⟨RX6, "began", "(I)I"⟩
abbrev cX6_mayHaveBegun : ByteArray := prog_1_method_23_code
def yX6_mayHaveBegun : MethodName := ⟨RX6, "mayHaveBegun", "(I)Z"⟩
abbrev cX6_share : ByteArray := prog_1_method_24_code
def yX6_share : MethodName := ⟨RX6, "share", "(IZ)I"⟩
abbrev cX6_largestEstate : ByteArray := prog_1_method_25_code
def yX6_largestEstate : MethodName := ⟨RX6, "largestEstate", "(I)I"⟩
abbrev cX6_rests : ByteArray := prog_1_method_26_code
def yX6_rests : MethodName := ⟨RX6, "rests", "(III)I"⟩
abbrev cX6_isContent : ByteArray := prog_1_method_27_code
def yX6_isContent : MethodName := ⟨RX6, "isContent", "(III)Z"⟩
abbrev cX6_hasByAsking : ByteArray := prog_1_method_28_code
def yX6_hasByAsking : MethodName := ⟨RX6, "hasByAsking", "(III)I"⟩
abbrev cX6_passes : ByteArray := prog_1_method_29_code
def yX6_passes : MethodName := ⟨RX6, "passes", "(IIIZ)I"⟩
abbrev cX6_weightOfShut : ByteArray := prog_1_method_30_code
def yX6_weightOfShut : MethodName := ⟨RX6, "weightOfShut", "(III)I"⟩
abbrev cX6_seed : ByteArray := prog_1_method_31_code
def yX6_seed : MethodName := ⟨RX6, "seed", "(J)J"⟩
abbrev cX6_years : ByteArray := prog_1_method_32_code
def yX6_years : MethodName := ⟨RX6, "years", "(I)I"⟩
abbrev cX6_keep : ByteArray := prog_1_method_33_code
def yX6_keep : MethodName := ⟨RX6, "keep", "(I)I"⟩
abbrev cX6_again : ByteArray := prog_1_method_34_code
def yX6_again : MethodName := ⟨RX6, "again", "(I)I"⟩
abbrev cX6_slotAt : ByteArray := prog_1_method_35_code
def yX6_slotAt : MethodName := ⟨RX6, "slotAt", "(I)LLetHoles$Wheel;"⟩
abbrev cX6_count : ByteArray := prog_1_method_36_code
def yX6_count : MethodName := ⟨RX6, "count", "(I)I"⟩
abbrev cX6_partOfFraction : ByteArray := prog_1_method_37_code
def yX6_partOfFraction : MethodName := ⟨RX6, "partOfFraction", "(IIZ)I"⟩
def RX7 : String := "LetHolesModel"
def TX7 : u_T := fun k => match k with
  | 0 => ("LetHolesModel", "owners", "I", false)
  | 1 => ("LetHolesModel", "holes", "I", false)
  | 2 => ("LetHolesModel", "ownerKind", "[I", true)
  | 3 => ("LetHolesModel", "paste", "[I", true)
  | 4 => ("LetHolesModel", "holeKind", "[I", true)
  | 5 => ("LetHolesModel", "now", "[I", true)
  | 6 => ("LetHolesModel", "readOwner", "[I", true)
  | 7 => ("LetHolesModel", "readRow", "[I", true)
  | 8 => ("LetHolesModel", "readHole", "[I", true)
  | 9 => ("LetHolesModel", "readOwners", "I", false)
  | 10 => ("LetHolesModel", "readRows", "I", false)
  | 11 => ("LetHolesModel", "readHoles", "I", false)
  | 12 => ("LetHolesModel", "readCells", "I", false)
  | 13 => ("LetHolesModel", "text", "[I", true)
  | 14 => ("LetHolesModel", "length", "I", false)
  | 15 => ("LetHolesModel", "at", "I", false)
  | 16 => ("LetHolesModel", "faultAt", "I", false)
  | 17 => ("LetHolesModel", "acts", "I", false)
  | 18 => ("LetHolesModel", "next", "I", false)
  | 19 => ("LetHolesModel", "row", "[I", true)
  | 20 => ("LetHolesModel", "gnaws", "[I", true)
  | 21 => ("LetHolesModel", "tasted", "I", false)
  | 22 => ("LetHolesModel", "tastedCell", "[I", true)
  | 23 => ("LetHolesModel", "tastedDays", "[I", true)
  | 24 => ("LetHolesModel", "tastedHole", "[I", true)
  | 25 => ("LetHolesModel", "seed", "J", false)
  | 26 => ("LetHolesModel", "isKept", "[Z", true)
  | _ => ("LetHolesModel", "kept", "[I", true)
def tyX7 : Nat → FieldType := fun k => match k with
  | 0 => .int
  | 1 => .int
  | 2 => .array .int
  | 3 => .array .int
  | 4 => .array .int
  | 5 => .array .int
  | 6 => .array .int
  | 7 => .array .int
  | 8 => .array .int
  | 9 => .int
  | 10 => .int
  | 11 => .int
  | 12 => .int
  | 13 => .array .int
  | 14 => .int
  | 15 => .int
  | 16 => .int
  | 17 => .int
  | 18 => .int
  | 19 => .array .int
  | 20 => .array .int
  | 21 => .int
  | 22 => .array .int
  | 23 => .array .int
  | 24 => .array .int
  | 25 => .long
  | 26 => .array .boolean
  | _ => .array .int
abbrev wsX70 : List Cond := u_ws RX7 TX7 28
theorem nmX7 : ∀ a, a < 28 → ∀ b, b < 28 → a ≠ b → (TX7 a).2.1 ≠ (TX7 b).2.1 := by decide +kernel
theorem tyX7_ok : ∀ k, k < 28 → parseFieldDescriptor (TX7 k).2.2.1 = some (tyX7 k) := by decide +kernel
abbrev cX7_init : ByteArray := prog_9_method_1_code
def yX7_init : MethodName := ⟨RX7, "<init>", "()V"⟩
abbrev cX7_in : ByteArray := prog_9_method_3_code
def yX7_in : MethodName := ⟨RX7, "in", "(JJJ)Z"⟩
abbrev cX7_has : ByteArray := prog_9_method_4_code
def yX7_has : MethodName := ⟨RX7, "has", "(II)Z"⟩
abbrev cX7_ones : ByteArray := prog_9_method_5_code
def yX7_ones : MethodName := ⟨RX7, "ones", "(I)I"⟩
abbrev cX7_write : ByteArray := prog_9_method_6_code
def yX7_write : MethodName := ⟨RX7, "write", "(I)I"⟩
abbrev cX7_wipe : ByteArray := prog_9_method_7_code
def yX7_wipe : MethodName := ⟨RX7, "wipe", "()I"⟩
abbrev cX7_told : ByteArray := prog_9_method_8_code
def yX7_told : MethodName := ⟨RX7, "told", "(II)I"⟩
abbrev cX7_readText : ByteArray := prog_9_method_9_code
def yX7_readText : MethodName := ⟨RX7, "readText", "()I"⟩
abbrev cX7_readPart : ByteArray := prog_9_method_10_code
def yX7_readPart : MethodName := ⟨RX7, "readPart", "(I)V"⟩
abbrev cX7_fault : ByteArray := prog_9_method_11_code
def yX7_fault : MethodName := ⟨RX7, "fault", "()I"⟩
abbrev cX7_dairy : ByteArray := prog_9_method_12_code
def yX7_dairy : MethodName := ⟨RX7, "dairy", "()I"⟩
abbrev cX7_isOwner : ByteArray := prog_9_method_13_code
def yX7_isOwner : MethodName := ⟨RX7, "isOwner", "(I)Z"⟩
abbrev cX7_isHole : ByteArray := prog_9_method_14_code
def yX7_isHole : MethodName := ⟨RX7, "isHole", "(I)Z"⟩
abbrev cX7_isCell : ByteArray := prog_9_method_15_code
def yX7_isCell : MethodName := ⟨RX7, "isCell", "(I)Z"⟩
abbrev cX7_of : ByteArray := prog_9_method_16_code
def yX7_of : MethodName := ⟨RX7, "of", "(II)I"⟩
abbrev cX7_beside : ByteArray := prog_9_method_17_code
def yX7_beside : MethodName := ⟨RX7, "beside", "(I)I"⟩
abbrev cX7_ownerOf : ByteArray := prog_9_method_18_code
def yX7_ownerOf : MethodName := ⟨RX7, "ownerOf", "(II)I"⟩
abbrev cX7_isMonks : ByteArray := prog_9_method_19_code
def yX7_isMonks : MethodName := ⟨RX7, "isMonks", "(I)Z"⟩
abbrev cX7_pay : ByteArray := prog_9_method_20_code
def yX7_pay : MethodName := ⟨RX7, "pay", "(IIII)V"⟩
abbrev cX7_least : ByteArray := prog_9_method_21_code
def yX7_least : MethodName := ⟨RX7, "least", "(I)I"⟩
abbrev cX7_takes : ByteArray := prog_9_method_22_code
def yX7_takes : MethodName := ⟨RX7, "takes", "(III)I"⟩
abbrev cX7_freePaste : ByteArray := prog_9_method_23_code
def yX7_freePaste : MethodName := ⟨RX7, "freePaste", "(I)I"⟩
abbrev cX7_grow : ByteArray := prog_9_method_24_code
def yX7_grow : MethodName := ⟨RX7, "grow", "(II)V"⟩
abbrev cX7_endHole : ByteArray := prog_9_method_25_code
def yX7_endHole : MethodName := ⟨RX7, "endHole", "(II)V"⟩
abbrev cX7_join : ByteArray := prog_9_method_26_code
def yX7_join : MethodName := ⟨RX7, "join", "(III)V"⟩
abbrev cX7_wed : ByteArray := prog_9_method_27_code
def yX7_wed : MethodName := ⟨RX7, "wed", "(I)Z"⟩
abbrev cX7_passOn : ByteArray := prog_9_method_28_code
def yX7_passOn : MethodName := ⟨RX7, "passOn", "(I)I"⟩
abbrev cX7_alive : ByteArray := prog_9_method_29_code
def yX7_alive : MethodName := ⟨RX7, "alive", "(I)I"⟩
abbrev cX7_estate : ByteArray := prog_9_method_30_code
def yX7_estate : MethodName := ⟨RX7, "estate", "(I)I"⟩
abbrev cX7_owner : ByteArray := prog_9_method_31_code
def yX7_owner : MethodName := ⟨RX7, "owner", "(II)I"⟩
abbrev cX7_hole : ByteArray := prog_9_method_32_code
def yX7_hole : MethodName := ⟨RX7, "hole", "(II)I"⟩
abbrev cX7_cell : ByteArray := prog_9_method_33_code
def yX7_cell : MethodName := ⟨RX7, "cell", "(II)I"⟩
abbrev cX7_keepAct : ByteArray := prog_9_method_34_code
def yX7_keepAct : MethodName := ⟨RX7, "keepAct", "()V"⟩
abbrev cX7_day : ByteArray := prog_9_method_35_code
def yX7_day : MethodName := ⟨RX7, "day", "()I"⟩
abbrev cX7_canEat : ByteArray := prog_9_method_36_code
def yX7_canEat : MethodName := ⟨RX7, "canEat", "(III)Z"⟩
abbrev cX7_eatOn : ByteArray := prog_9_method_37_code
def yX7_eatOn : MethodName := ⟨RX7, "eatOn", "(III)I"⟩
abbrev cX7_eat : ByteArray := prog_9_method_38_code
def yX7_eat : MethodName := ⟨RX7, "eat", "(II)I"⟩
abbrev cX7_canLet : ByteArray := prog_9_method_39_code
def yX7_canLet : MethodName := ⟨RX7, "canLet", "(III)Z"⟩
abbrev cX7_let : ByteArray := prog_9_method_40_code
def yX7_let : MethodName := ⟨RX7, "let", "(II)I"⟩
abbrev cX7_canSell : ByteArray := prog_9_method_41_code
def yX7_canSell : MethodName := ⟨RX7, "canSell", "(III)Z"⟩
abbrev cX7_sellOn : ByteArray := prog_9_method_42_code
def yX7_sellOn : MethodName := ⟨RX7, "sellOn", "(III)I"⟩
abbrev cX7_sell : ByteArray := prog_9_method_43_code
def yX7_sell : MethodName := ⟨RX7, "sell", "(II)I"⟩
abbrev cX7_undo : ByteArray := prog_9_method_44_code
def yX7_undo : MethodName := ⟨RX7, "undo", "()I"⟩
abbrev cX7_stepsBy : ByteArray := prog_9_method_45_code
def yX7_stepsBy : MethodName := ⟨RX7, "stepsBy", "(III)I"⟩
abbrev cX7_way : ByteArray := prog_9_method_46_code
def yX7_way : MethodName := ⟨RX7, "way", "(II)I"⟩
abbrev cX7_gnaw : ByteArray := prog_9_method_47_code
def yX7_gnaw : MethodName := ⟨RX7, "gnaw", "(II)I"⟩
abbrev cX7_costOf : ByteArray := prog_9_method_48_code
def yX7_costOf : MethodName := ⟨RX7, "costOf", "(I)I"⟩
abbrev cX7_ease : ByteArray := prog_9_method_49_code
def yX7_ease : MethodName := ⟨RX7, "ease", "(I)Z"⟩
abbrev cX7_layTrial : ByteArray := prog_9_method_50_code
def yX7_layTrial : MethodName := ⟨RX7, "layTrial", "()V"⟩
abbrev cX7_wedding : ByteArray := prog_9_method_51_code
def yX7_wedding : MethodName := ⟨RX7, "wedding", "(II)I"⟩
abbrev cX7_ahead : ByteArray := prog_9_method_52_code
def yX7_ahead : MethodName := ⟨RX7, "ahead", "(II)I"⟩
abbrev cX7_cut : ByteArray := prog_9_method_53_code
def yX7_cut : MethodName := ⟨RX7, "cut", "(III)I"⟩
abbrev cX7_tryThing : ByteArray := prog_9_method_54_code
def yX7_tryThing : MethodName := ⟨RX7, "tryThing", "(III)Z"⟩
abbrev cX7_power : ByteArray := prog_9_method_55_code
def yX7_power : MethodName := ⟨RX7, "power", "(JI)J"⟩
abbrev cX7_judge : ByteArray := prog_9_method_56_code
def yX7_judge : MethodName := ⟨RX7, "judge", "(IJ)I"⟩
abbrev cX7_taste : ByteArray := prog_9_method_57_code
def yX7_taste : MethodName := ⟨RX7, "taste", "(III)I"⟩
abbrev cX7_rinse : ByteArray := prog_9_method_58_code
def yX7_rinse : MethodName := ⟨RX7, "rinse", "()I"⟩
abbrev cX7_mayBegin : ByteArray := prog_9_method_59_code
def yX7_mayBegin : MethodName := ⟨RX7, "mayBegin", "(II)Z"⟩
abbrev cX7_began : ByteArray := prog_9_method_60_code
def yX7_began : MethodName := ⟨RX7, "began", "(I)I"⟩
abbrev cX7_factorial : ByteArray := prog_9_method_61_code
def yX7_factorial : MethodName := ⟨RX7, "factorial", "(I)I"⟩
abbrev cX7_common : ByteArray := prog_9_method_62_code
def yX7_common : MethodName := ⟨RX7, "common", "(II)I"⟩
abbrev cX7_largest : ByteArray := prog_9_method_63_code
def yX7_largest : MethodName := ⟨RX7, "largest", "(I)I"⟩
abbrev cX7_share : ByteArray := prog_9_method_64_code
def yX7_share : MethodName := ⟨RX7, "share", "(IZ)I"⟩
abbrev cX7_holeCells : ByteArray := prog_9_method_65_code
def yX7_holeCells : MethodName := ⟨RX7, "holeCells", "(I)I"⟩
abbrev cX7_gain : ByteArray := prog_9_method_66_code
def yX7_gain : MethodName := ⟨RX7, "gain", "(III)I"⟩
abbrev cX7_rests : ByteArray := prog_9_method_67_code
def yX7_rests : MethodName := ⟨RX7, "rests", "(III)I"⟩
abbrev cX7_passes : ByteArray := prog_9_method_68_code
def yX7_passes : MethodName := ⟨RX7, "passes", "(IIIZ)I"⟩
abbrev cX7_seed : ByteArray := prog_9_method_69_code
def yX7_seed : MethodName := ⟨RX7, "seed", "(J)J"⟩
abbrev cX7_years : ByteArray := prog_9_method_70_code
def yX7_years : MethodName := ⟨RX7, "years", "(I)I"⟩
abbrev cX7_keep : ByteArray := prog_9_method_71_code
def yX7_keep : MethodName := ⟨RX7, "keep", "(I)I"⟩
abbrev cX7_again : ByteArray := prog_9_method_72_code
def yX7_again : MethodName := ⟨RX7, "again", "(I)I"⟩
abbrev cX7_count : ByteArray := prog_9_method_73_code
def yX7_count : MethodName := ⟨RX7, "count", "(I)I"⟩
def RJ6 : String := "java/lang/Integer"
def TJ6 : u_T := fun k => match k with
  | _ => ("", "", "", false)
def tyJ6 : Nat → FieldType := fun k => match k with
  | _ => .int
abbrev wsJ60 : List Cond := u_ws RJ6 TJ6 0
theorem nmJ6 : ∀ a, a < 0 → ∀ b, b < 0 → a ≠ b → (TJ6 a).2.1 ≠ (TJ6 b).2.1 := by decide +kernel
theorem tyJ6_ok : ∀ k, k < 0 → parseFieldDescriptor (TJ6 k).2.2.1 = some (tyJ6 k) := by decide +kernel
abbrev cJ6_bitCount_0f7a4 : ByteArray := prog_10_method_49_code
def yJ6_bitCount_0f7a4 : MethodName := ⟨RJ6, "bitCount", "(I)I"⟩
def RJ9 : String := "java/lang/Math"
def TJ9 : u_T := fun k => match k with
  | _ => ("", "", "", false)
def tyJ9 : Nat → FieldType := fun k => match k with
  | _ => .int
abbrev wsJ90 : List Cond := u_ws RJ9 TJ9 0
theorem nmJ9 : ∀ a, a < 0 → ∀ b, b < 0 → a ≠ b → (TJ9 a).2.1 ≠ (TJ9 b).2.1 := by decide +kernel
theorem tyJ9_ok : ∀ k, k < 0 → parseFieldDescriptor (TJ9 k).2.2.1 = some (tyJ9 k) := by decide +kernel
abbrev cJ9_abs_0f7a4 : ByteArray := prog_11_method_59_code
def yJ9_abs_0f7a4 : MethodName := ⟨RJ9, "abs", "(I)I"⟩
abbrev cJ9_max_7cf53 : ByteArray := prog_11_method_65_code
def yJ9_max_7cf53 : MethodName := ⟨RJ9, "max", "(II)I"⟩
def RJ10 : String := "java/lang/System"
def TJ10 : u_T := fun k => match k with
  | _ => ("", "", "", false)
def tyJ10 : Nat → FieldType := fun k => match k with
  | _ => .int
abbrev wsJ100 : List Cond := u_ws RJ10 TJ10 0
theorem nmJ10 : ∀ a, a < 0 → ∀ b, b < 0 → a ≠ b → (TJ10 a).2.1 ≠ (TJ10 b).2.1 := by decide +kernel
theorem tyJ10_ok : ∀ k, k < 0 → parseFieldDescriptor (TJ10 k).2.2.1 = some (tyJ10 k) := by decide +kernel
def RJ7 : String := "java/util/Arrays"
def TJ7 : u_T := fun k => match k with
  | _ => ("", "", "", false)
def tyJ7 : Nat → FieldType := fun k => match k with
  | _ => .int
abbrev wsJ70 : List Cond := u_ws RJ7 TJ7 0
theorem nmJ7 : ∀ a, a < 0 → ∀ b, b < 0 → a ≠ b → (TJ7 a).2.1 ≠ (TJ7 b).2.1 := by decide +kernel
theorem tyJ7_ok : ∀ k, k < 0 → parseFieldDescriptor (TJ7 k).2.2.1 = some (tyJ7 k) := by decide +kernel
abbrev cJ7_fill_53178 : ByteArray := prog_13_method_103_code
def yJ7_fill_53178 : MethodName := ⟨RJ7, "fill", "([II)V"⟩
def RL : String := "LetHolesLaw"
abbrev cL_law : ByteArray := code
def yL_law : MethodName := ⟨RL, "law", "([I)Z"⟩
end
section

/-! my base: one word list for all methods, worlds, the frame of a call, loops -/
theorem mj_1 {w : Cond} (h : w ∈ tables_1_1) : w ∈ lw_tbl := List.mem_append_right _ (List.mem_append_left _ h)
theorem mj_2 {w : Cond} (h : w ∈ tables_1_2) : w ∈ lw_tbl := List.mem_append_right _ (List.mem_append_right _ (List.mem_append_left _ h))
theorem mj_3 {w : Cond} (h : w ∈ tables_1_3) : w ∈ lw_tbl := List.mem_append_right _ (List.mem_append_right _ (List.mem_append_right _ (List.mem_append_left _ h)))
theorem mj_4 {w : Cond} (h : w ∈ tables_1_4) : w ∈ lw_tbl := List.mem_append_right _ (List.mem_append_right _ (List.mem_append_right _ (List.mem_append_right _ (List.mem_append_left _ h))))
theorem mj_5 {w : Cond} (h : w ∈ tables_1_5) : w ∈ lw_tbl := List.mem_append_right _ (List.mem_append_right _ (List.mem_append_right _ (List.mem_append_right _ (List.mem_append_right _ (h)))))
def lw_g : List Cond := lw_tbl.filter goodWord
def wsA (y : MethodName) (c : ByteArray) (n : Nat) (r : Option FieldType) : List Cond := .code y c n r :: lw_g
theorem gT0 {y : MethodName} {c : ByteArray} {n : Nat} {r : Option FieldType} (h : Cond.code y c n r ∈ lw_g) : GoodIn lw_g (wsA y c n r) := by
  intro w hw
  have hm : w ∈ lw_g := by
    rcases List.mem_cons.mp hw with e | e
    · rw [e]; exact h
    · exact e
  exact ⟨hm, good_of_word (List.mem_filter.mp hm).2⟩
theorem gT {y : MethodName} {c : ByteArray} {n : Nat} {r : Option FieldType} (h : Cond.code y c n r ∈ lw_g) : GoodIn lw_tbl (wsA y c n r) := fun w hw => ⟨(List.mem_filter.mp (gT0 h w hw).1).1, (gT0 h w hw).2⟩
theorem gA {y0 y : MethodName} {c0 c : ByteArray} {n0 n : Nat} {r0 r : Option FieldType} (h : Cond.code y c n r ∈ lw_g) : GoodIn (wsA y0 c0 n0 r0) (wsA y c n r) := fun w hw => ⟨List.mem_cons_of_mem _ (gT0 h w hw).1, (gT0 h w hw).2⟩
abbrev classes : List vw_C := [(RX0, TX0, 2), (RX1, TX1, 14), (RX4, TX4, 4), (RX5, TX5, 6), (RX6, TX6, 12), (RX7, TX7, 28)]
def tyl (cI cZ cW : ClassId) : List (ClassId × FieldType) := [(cI, .int), (cZ, .boolean), (cW, .object "LetHoles$Wheel")]
abbrev CS : Type := (Nat → Int32) × (Nat → Nat → Int32) × Int64
abbrev FA : Type := Nat → Int32
def sI (c : CS) (k : Nat) (v : Int32) : CS := (upd c.1 k v, c.2)
def sF (c : CS) (k : Nat) (f : FA) : CS := (c.1, va_up c.2.1 k f, c.2.2)
def sA (c : CS) (k i : Nat) (v : Int32) : CS := sF c k (upd (c.2.1 k) i v)
def sL (c : CS) (v : Int64) : CS := (c.1, c.2.1, v)
def wI (cI : ClassId) (a n : Nat) (f : FA) : va_W := [(a, .inl (cI, n, .inl f))]
def wW (cI cZ : ClassId) (q : Nat → Nat) (w : CS) : va_W := [(q 0, .inr (3, [.ref (q 1), .ref (q 2), .ref (q 3), .ref (q 4), .int (w.1 4), .int (w.1 5)])), (q 1, .inl (cI, 5, .inl (w.2.1 0))), (q 2, .inl (cI, 5, .inl (w.2.1 1))), (q 3, .inl (cI, 5, .inl (w.2.1 2))), (q 4, .inl (cI, 4, .inl (w.2.1 3)))]
def wD (cI cZ : ClassId) (q : Nat → Nat) (w : CS) : va_W := [(q 0, .inr (1, [.int (w.1 0), .int (w.1 1), .ref (q 1), .ref (q 2), .ref (q 3), .ref (q 4), .ref (q 5), .int (w.1 7), .int (w.1 8), .int (w.1 9), .int (w.1 10), .int (w.1 11), .int (w.1 12), .int (w.1 13)])), (q 1, .inl (cI, 4, .inl (w.2.1 2))), (q 2, .inl (cI, 4, .inl (w.2.1 3))), (q 3, .inl (cI, 5, .inl (w.2.1 4))), (q 4, .inl (cI, 5, .inl (w.2.1 5))), (q 5, .inl (cI, 5, .inl (w.2.1 6)))]
def wT (cI cZ : ClassId) (q : Nat → Nat) (w : CS) : va_W := [(q 0, .inr (2, [.ref (q 1), .ref (q 2), .ref (q 3), .int (w.1 3)])), (q 1, .inl (cI, 6, .inl (w.2.1 0))), (q 2, .inl (cI, 6, .inl (w.2.1 1))), (q 3, .inl (cZ, 6, .inl (w.2.1 2)))]
def wM (cI cZ : ClassId) (q : Nat → Nat) (w : CS) : va_W := [(q 0, .inr (5, [.int (w.1 0), .int (w.1 1), .ref (q 1), .ref (q 2), .ref (q 3), .ref (q 4), .ref (q 5), .ref (q 6), .ref (q 7), .int (w.1 9), .int (w.1 10), .int (w.1 11), .int (w.1 12), .ref (q 8), .int (w.1 14), .int (w.1 15), .int (w.1 16), .int (w.1 17), .int (w.1 18), .ref (q 9), .ref (q 10), .int (w.1 21), .ref (q 11), .ref (q 12), .ref (q 13), .long w.2.2, .ref (q 14), .ref (q 15)])), (q 1, .inl (cI, 4, .inl (w.2.1 2))), (q 2, .inl (cI, 4, .inl (w.2.1 3))), (q 3, .inl (cI, 5, .inl (w.2.1 4))), (q 4, .inl (cI, 70, .inl (w.2.1 5))), (q 5, .inl (cI, 4, .inl (w.2.1 6))), (q 6, .inl (cI, 4, .inl (w.2.1 7))), (q 7, .inl (cI, 15, .inl (w.2.1 8))), (q 8, .inl (cI, 48, .inl (w.2.1 13))), (q 9, .inl (cI, 490, .inl (w.2.1 19))), (q 10, .inl (cI, 20, .inl (w.2.1 20))), (q 11, .inl (cI, 6, .inl (w.2.1 22))), (q 12, .inl (cI, 6, .inl (w.2.1 23))), (q 13, .inl (cI, 6, .inl (w.2.1 24))), (q 14, .inl (cZ, 2, .inl (w.2.1 26))), (q 15, .inl (cI, 70, .inl (w.2.1 27)))]
def PR (D : va_G) (cI cZ cW : ClassId) (As : List Value) (ws : va_W) : Array Value → State → Prop := va_Pc As (fun U => va_P D classes ws U.heap ∧ va_K D classes (tyl cI cZ cW) U)
theorem PR_blind {D : va_G} {cI cZ cW : ClassId} {As : List Value} {ws : va_W} : FrameBlind (PR D cI cZ cW As ws) := fun a U g mk q => ⟨q.1, q.2.1, va_K.moved (u := U) (U := U.calling g mk a) (Vm.Alike.refl U.vm) q.2.2⟩
theorem PR_mk {D : va_G} {cI cZ cW : ClassId} {As : List Value} {ws : va_W} {s U : State} {H : Heap} (hP : va_P D classes ws H) (hK : va_K D classes (tyl cI cZ cW) s) (hU : U.heap = H) (hW : s.WarmedH U.vm) : PR D cI cZ cW As ws As.toArray U := ⟨rfl, by rw [hU]; exact hP, va_K.moved hW.alike hK⟩
def PW (D : va_G) (cI cZ cW : ClassId) (As : List Value) (ws : va_W) (sz : Nat) : Array Value → State → Prop := va_Pc As (fun U => U.heap.size = sz ∧ va_P D classes ws U.heap ∧ va_K D classes (tyl cI cZ cW) U ∧ va_D (fun _ => True) ws)
theorem PW_blind {D : va_G} {cI cZ cW : ClassId} {As : List Value} {ws : va_W} {sz : Nat} : FrameBlind (PW D cI cZ cW As ws sz) := fun a U g mk q => ⟨q.1, q.2.1, q.2.2.1, va_K.moved (u := U) (U := U.calling g mk a) (Vm.Alike.refl U.vm) q.2.2.2.1, q.2.2.2.2⟩
theorem PW_mk {D : va_G} {cI cZ cW : ClassId} {As : List Value} {ws : va_W} {A : Nat → Prop} {s U : State} {H : Heap} (hP : va_P D classes ws H) (hD : va_D A ws) (hK : va_K D classes (tyl cI cZ cW) s) (hU : U.heap = H) (hW : s.WarmedH U.vm) : PW D cI cZ cW As ws H.size As.toArray U := ⟨rfl, by rw [hU], by rw [hU]; exact hP, va_K.moved hW.alike hK, hD.weaken (fun _ _ _ _ => trivial)⟩
theorem P_heap {D : va_G} {cl : List vw_C} {ws : va_W} {t : State} {H : Heap} (ht : t.heap = H) (hP : va_P D cl ws H) : va_P D cl ws t.heap := by rw [ht]; exact hP
def LOOP {σ : Type} (body : (σ → Prop) → σ → Prop) (z : σ) : Prop := ∃ I : Nat → σ → Prop, (∃ k, I k z) ∧ ∀ k z, I k z → body (fun z' => ∃ k', k' < k ∧ I k' z') z
theorem LOOP_m {σ : Type} {body : (σ → Prop) → σ → Prop} (I : σ → Prop) (μ : σ → Nat) (z : σ) (h0 : I z) (hs : ∀ (z : σ) (G : σ → Prop), I z → (∀ z', I z' → μ z' < μ z → G z') → body G z) : LOOP body z :=
  ⟨fun k z => I z ∧ μ z = k, ⟨μ z, h0, rfl⟩, fun k z h => hs z _ h.1 (fun z' h1 h2 => ⟨μ z', by omega, h1, rfl⟩)⟩
theorem pf_I : parseFieldDescriptor "I" = some .int := by decide +kernel
theorem pf_J : parseFieldDescriptor "J" = some .long := by decide +kernel
def setM : va_W → List Nat → va_W → va_W
  | ws, i :: is, c :: cs => setM (ws.set i c) is cs
  | ws, _, _ => ws
theorem set_fst (ws : va_W) (i : Nat) (c : Nat × va_E) (h : (ws[i]?).map Prod.fst = some c.1) : (ws.set i c).map Prod.fst = ws.map Prod.fst := by
  apply List.ext_getElem?
  intro n
  rw [List.getElem?_map, List.getElem?_map, List.getElem?_set]
  by_cases hin : i = n
  · subst hin
    cases hq : ws[i]? with
    | none => rw [hq] at h; cases h
    | some q =>
      have hl : i < ws.length := (List.getElem?_eq_some_iff.mp hq).1
      rw [hq] at h
      simp only [hl, if_true, Option.map_some] at h ⊢
      exact h.symm
  · simp [hin]
theorem setM_fst : ∀ (is : List Nat) (w1 ws : va_W), is.map (fun i => (ws[i]?).map Prod.fst) = w1.map (fun c => some c.1) → (setM ws is w1).map Prod.fst = ws.map Prod.fst
  | [], w1, ws, _ => by cases w1 <;> rfl
  | i :: is, [], ws, h => by cases h
  | i :: is, c :: cs, ws, h => by
    simp only [List.map_cons, List.cons.injEq] at h
    have h1 := set_fst ws i c h.1
    have h2 : is.map (fun i => ((ws.set i c)[i]?).map Prod.fst) = is.map (fun i => ((ws.set i c)[i]?).map Prod.fst) := rfl
    have h3 : is.map (fun j => ((ws.set i c)[j]?).map Prod.fst) = cs.map (fun c => some c.1) := by
      rw [← h.2]
      apply List.map_congr_left
      intro j _
      rw [← List.getElem?_map, ← List.getElem?_map, h1]
    exact (setM_fst is cs (ws.set i c) h3).trans h1
theorem setM_at : ∀ (is : List Nat) (w1 ws : va_W) (n : Nat) (q : Nat × va_E), is.length = w1.length → (setM ws is w1)[n]? = some q → q ∈ w1 ∨ (n ∉ is ∧ ws[n]? = some q)
  | [], w1, ws, n, q, _, h => Or.inr ⟨List.not_mem_nil, by cases w1 <;> exact h⟩
  | i :: is, [], ws, n, q, hl, _ => by cases hl
  | i :: is, c :: cs, ws, n, q, hl, h => by
    rcases setM_at is cs (ws.set i c) n q (by simpa using hl) h with h1 | ⟨h1, h2⟩
    · exact Or.inl (List.mem_cons_of_mem _ h1)
    · rw [List.getElem?_set] at h2
      by_cases hin : i = n
      · subst hin
        by_cases hlt : i < ws.length
        · simp only [hlt, if_true, Option.some.injEq] at h2
          exact Or.inl (by rw [h2]; exact List.mem_cons_self)
        · simp [hlt] at h2
      · simp only [hin, if_false] at h2
        refine Or.inr ⟨fun hm => ?_, h2⟩
        rcases List.mem_cons.mp hm with e | e
        · exact hin e.symm
        · exact h1 e
theorem va_D.same {A : Nat → Prop} {ws ws' : va_W} (h : va_D A ws) (he : ws'.map Prod.fst = ws.map Prod.fst) : va_D A ws' := by
  have key : ∀ (k : Nat) (q : Nat × va_E), ws'[k]? = some q → ∃ q0, ws[k]? = some q0 ∧ q0.1 = q.1 := by
    intro k q hq
    have h1 : (ws'.map Prod.fst)[k]? = some q.1 := by rw [List.getElem?_map, hq]; rfl
    rw [he, List.getElem?_map] at h1
    cases hw : ws[k]? with
    | none => rw [hw] at h1; cases h1
    | some q0 => rw [hw] at h1; exact ⟨q0, rfl, Option.some.inj h1⟩
  refine ⟨fun i j p q hp hq e => ?_, fun k q hq => ?_⟩
  · obtain ⟨p0, hp0, ep⟩ := key i p hp
    obtain ⟨q0, hq0, eq⟩ := key j q hq
    exact h.1 i j p0 q0 hp0 hq0 (by rw [ep, eq, e])
  · obtain ⟨q0, hq0, eq⟩ := key k q hq
    rw [← eq]
    exact h.2 k q0 hq0
theorem cj {A0 : Nat → Prop} {D : va_G} {cl : List vw_C} {ws : va_W} {H H1 : Heap} (is : List Nat) (wc w1 : va_W) (hP : va_P D cl ws H) (hD : va_D A0 ws) (hC : is.map (fun i => ws[i]?) = wc.map some) (hA1 : wc.map Prod.fst = w1.map Prod.fst)
    (hk : ∀ q : Nat, q < H.size → ¬ va_A wc H.size q → H1[q]? = H[q]?) (hP1 : va_P D cl w1 H1) : va_P D cl (setM ws is w1) H1 ∧ va_D A0 (setM ws is w1) := by
  have hlen : is.length = w1.length := by
    have e1 := congrArg List.length hC
    have e2 := congrArg List.length hA1
    simp only [List.length_map] at e1 e2
    exact e1.trans e2
  refine ⟨fun n q hq => ?_, hD.same (setM_fst is w1 ws ?_)⟩
  · rcases setM_at is w1 ws n q hlen hq with h1 | ⟨h1, h2⟩
    · obtain ⟨k, hk1⟩ := List.getElem?_of_mem h1
      exact hP1 k q hk1
    · have hat := hP n q h2
      refine hat.kept (hk q.1 hat.lt (fun ha => ?_))
      rcases ha with ⟨k, e, hw⟩ | h
      · have h3 : (is.map (fun i => ws[i]?))[k]? = some (some (q.1, e)) := by rw [hC, List.getElem?_map, hw]; rfl
        rw [List.getElem?_map] at h3
        cases hi : is[k]? with
        | none => rw [hi] at h3; cases h3
        | some i =>
          rw [hi] at h3
          have h4 : ws[i]? = some (q.1, e) := Option.some.inj h3
          have h5 := hD.1 n i q (q.1, e) h2 h4 rfl
          exact h1 (by rw [h5]; exact List.mem_of_getElem? hi)
      · exact absurd hat.lt (by omega)
  · have e1 : is.map (fun i => (ws[i]?).map Prod.fst) = (is.map (fun i => ws[i]?)).map (Option.map Prod.fst) := by rw [List.map_map]; rfl
    rw [e1, hC, List.map_map]
    have e2 : (wc.map (Option.map Prod.fst ∘ some)) = (wc.map Prod.fst).map some := by rw [List.map_map]; rfl
    rw [e2, hA1, List.map_map]
    rfl
theorem inX0 : ∀ w ∈ u_ws RX0 TX0 2, w ∈ lw_g := by decide +kernel
theorem inX1 : ∀ w ∈ u_ws RX1 TX1 14, w ∈ lw_g := by decide +kernel
theorem inX4 : ∀ w ∈ u_ws RX4 TX4 4, w ∈ lw_g := by decide +kernel
theorem inX5 : ∀ w ∈ u_ws RX5 TX5 6, w ∈ lw_g := by decide +kernel
theorem inX6 : ∀ w ∈ u_ws RX6 TX6 12, w ∈ lw_g := by decide +kernel
theorem inX7 : ∀ w ∈ u_ws RX7 TX7 28, w ∈ lw_g := by decide +kernel
end
section
theorem tw_0 : Jvm.Cond.initialized "LetHolesLaw" ∈ lw_g := List.mem_filter.mpr ⟨mj_1 (List.mem_of_getElem? (i := 0) rfl), rfl⟩
theorem tw_1 : Jvm.Cond.initialized "LetHoles" ∈ lw_g := List.mem_filter.mpr ⟨mj_1 (List.mem_of_getElem? (i := 1) rfl), rfl⟩
theorem tw_2 : Jvm.Cond.initialized "LetHoles$Deeds" ∈ lw_g := List.mem_filter.mpr ⟨mj_1 (List.mem_of_getElem? (i := 2) rfl), rfl⟩
theorem tw_3 : Jvm.Cond.initialized "java/util/Arrays" ∈ lw_g := List.mem_filter.mpr ⟨mj_1 (List.mem_of_getElem? (i := 3) rfl), rfl⟩
theorem tw_4 : Jvm.Cond.initialized "LetHoles$Wheel" ∈ lw_g := List.mem_filter.mpr ⟨mj_1 (List.mem_of_getElem? (i := 4) rfl), rfl⟩
theorem tw_5 : Jvm.Cond.initialized "LetHoles$Acts" ∈ lw_g := List.mem_filter.mpr ⟨mj_1 (List.mem_of_getElem? (i := 5) rfl), rfl⟩
theorem tw_6 : Jvm.Cond.initialized "LetHoles$Tasted" ∈ lw_g := List.mem_filter.mpr ⟨mj_1 (List.mem_of_getElem? (i := 6) rfl), rfl⟩
theorem tw_7 : Jvm.Cond.initialized "LetHolesModel" ∈ lw_g := List.mem_filter.mpr ⟨mj_1 (List.mem_of_getElem? (i := 7) rfl), rfl⟩
theorem tw_8 : Jvm.Cond.initialized "LetHoles$Rows" ∈ lw_g := List.mem_filter.mpr ⟨mj_1 (List.mem_of_getElem? (i := 8) rfl), rfl⟩
theorem tw_9 : Jvm.Cond.initialized "LetHoles$Grid" ∈ lw_g := List.mem_filter.mpr ⟨mj_1 (List.mem_of_getElem? (i := 9) rfl), rfl⟩
theorem tw_10 : Jvm.Cond.initialized "java/lang/Integer" ∈ lw_g := List.mem_filter.mpr ⟨mj_1 (List.mem_of_getElem? (i := 10) rfl), rfl⟩
theorem tw_11 : Jvm.Cond.initialized "java/lang/System" ∈ lw_g := List.mem_filter.mpr ⟨mj_1 (List.mem_of_getElem? (i := 11) rfl), rfl⟩
theorem tw_12 : Jvm.Cond.initialized "java/lang/Math" ∈ lw_g := List.mem_filter.mpr ⟨mj_1 (List.mem_of_getElem? (i := 12) rfl), rfl⟩
theorem tw_13 : Jvm.Cond.classLink "LetHolesLaw" (7 : Nat) "LetHoles" ∈ lw_g := List.mem_filter.mpr ⟨mj_1 (List.mem_of_getElem? (i := 13) rfl), rfl⟩
theorem tw_14 : Jvm.Cond.instantiable "LetHoles" (12 : Nat) ∈ lw_g := List.mem_filter.mpr ⟨mj_1 (List.mem_of_getElem? (i := 14) rfl), rfl⟩
theorem tw_15 : Jvm.Cond.methodLink "LetHolesLaw" (9 : Nat) ({ cls := "LetHoles", name := "<init>", desc := "()V" } : Jvm.MethodName) ∈ lw_g := List.mem_filter.mpr ⟨mj_1 (List.mem_of_getElem? (i := 15) rfl), rfl⟩
theorem tw_16 : Jvm.Cond.instanceMethod ({ cls := "LetHoles", name := "<init>", desc := "()V" } : Jvm.MethodName) ∈ lw_g := List.mem_filter.mpr ⟨mj_1 (List.mem_of_getElem? (i := 16) rfl), rfl⟩
theorem tw_17 : Jvm.Cond.code ({ cls := "LetHoles", name := "<init>", desc := "()V" } : Jvm.MethodName) prog_1_method_1_code (1 : Nat) (Option.none : Option Jvm.ClassFile.FieldType) ∈ lw_g := List.mem_filter.mpr ⟨mj_1 (List.mem_of_getElem? (i := 17) rfl), rfl⟩
theorem tw_18 : Jvm.Cond.methodLink "LetHoles" (1 : Nat) ({ cls := "java/lang/Object", name := "<init>", desc := "()V" } : Jvm.MethodName) ∈ lw_g := List.mem_filter.mpr ⟨mj_1 (List.mem_of_getElem? (i := 18) rfl), rfl⟩
theorem tw_19 : Jvm.Cond.instanceMethod ({ cls := "java/lang/Object", name := "<init>", desc := "()V" } : Jvm.MethodName) ∈ lw_g := List.mem_filter.mpr ⟨mj_1 (List.mem_of_getElem? (i := 19) rfl), rfl⟩
theorem tw_20 : Jvm.Cond.code ({ cls := "java/lang/Object", name := "<init>", desc := "()V" } : Jvm.MethodName) object_method_1_code (1 : Nat) (Option.none : Option Jvm.ClassFile.FieldType) ∈ lw_g := List.mem_filter.mpr ⟨mj_1 (List.mem_of_getElem? (i := 20) rfl), rfl⟩
theorem tw_21 : Jvm.Cond.classLink "LetHoles" (17 : Nat) "LetHoles$Deeds" ∈ lw_g := List.mem_filter.mpr ⟨mj_1 (List.mem_of_getElem? (i := 21) rfl), rfl⟩
theorem tw_22 : Jvm.Cond.instantiable "LetHoles$Deeds" (14 : Nat) ∈ lw_g := List.mem_filter.mpr ⟨mj_1 (List.mem_of_getElem? (i := 22) rfl), rfl⟩
theorem tw_23 : Jvm.Cond.methodLink "LetHoles" (19 : Nat) ({ cls := "LetHoles$Deeds", name := "<init>", desc := "()V" } : Jvm.MethodName) ∈ lw_g := List.mem_filter.mpr ⟨mj_1 (List.mem_of_getElem? (i := 23) rfl), rfl⟩
theorem tw_24 : Jvm.Cond.instanceMethod ({ cls := "LetHoles$Deeds", name := "<init>", desc := "()V" } : Jvm.MethodName) ∈ lw_g := List.mem_filter.mpr ⟨mj_1 (List.mem_of_getElem? (i := 24) rfl), rfl⟩
theorem tw_25 : Jvm.Cond.code ({ cls := "LetHoles$Deeds", name := "<init>", desc := "()V" } : Jvm.MethodName) prog_3_method_1_code (1 : Nat) (Option.none : Option Jvm.ClassFile.FieldType) ∈ lw_g := List.mem_filter.mpr ⟨mj_1 (List.mem_of_getElem? (i := 25) rfl), rfl⟩
theorem tw_26 : Jvm.Cond.methodLink "LetHoles$Deeds" (3 : Nat) ({ cls := "java/lang/Object", name := "<init>", desc := "()V" } : Jvm.MethodName) ∈ lw_g := List.mem_filter.mpr ⟨mj_1 (List.mem_of_getElem? (i := 26) rfl), rfl⟩
theorem tw_27 : Jvm.Cond.methodLink "LetHoles$Deeds" (55 : Nat) ({ cls := "java/util/Arrays", name := "fill", desc := "([II)V" } : Jvm.MethodName) ∈ lw_g := List.mem_filter.mpr ⟨mj_1 (List.mem_of_getElem? (i := 27) rfl), rfl⟩
theorem tw_28 : Jvm.Cond.static ({ cls := "java/util/Arrays", name := "fill", desc := "([II)V" } : Jvm.MethodName) ∈ lw_g := List.mem_filter.mpr ⟨mj_1 (List.mem_of_getElem? (i := 28) rfl), rfl⟩
theorem tw_29 : Jvm.Cond.code ({ cls := "java/util/Arrays", name := "fill", desc := "([II)V" } : Jvm.MethodName) prog_13_method_103_code (4 : Nat) (Option.none : Option Jvm.ClassFile.FieldType) ∈ lw_g := List.mem_filter.mpr ⟨mj_1 (List.mem_of_getElem? (i := 29) rfl), rfl⟩
theorem tw_30 : Jvm.Cond.fieldLink "LetHoles$Deeds" (9 : Nat) "LetHoles$Deeds" "owners" "I" ∈ lw_g := List.mem_filter.mpr ⟨mj_1 (List.mem_of_getElem? (i := 30) rfl), rfl⟩
theorem tw_31 : Jvm.Cond.fieldLink "LetHoles" (76 : Nat) "LetHoles$Deeds" "owners" "I" ∈ lw_g := List.mem_filter.mpr ⟨mj_1 (List.mem_of_getElem? (i := 31) rfl), rfl⟩
theorem tw_32 : Jvm.Cond.fieldLink "LetHoles$Deeds" (15 : Nat) "LetHoles$Deeds" "holes" "I" ∈ lw_g := List.mem_filter.mpr ⟨mj_1 (List.mem_of_getElem? (i := 32) rfl), rfl⟩
theorem tw_33 : Jvm.Cond.fieldLink "LetHoles" (79 : Nat) "LetHoles$Deeds" "holes" "I" ∈ lw_g := List.mem_filter.mpr ⟨mj_1 (List.mem_of_getElem? (i := 33) rfl), rfl⟩
theorem tw_34 : Jvm.Cond.fieldLink "LetHoles$Deeds" (18 : Nat) "LetHoles$Deeds" "ownerKind" "[I" ∈ lw_g := List.mem_filter.mpr ⟨mj_1 (List.mem_of_getElem? (i := 34) rfl), rfl⟩
theorem tw_35 : Jvm.Cond.fieldLink "LetHoles" (86 : Nat) "LetHoles$Deeds" "ownerKind" "[I" ∈ lw_g := List.mem_filter.mpr ⟨mj_1 (List.mem_of_getElem? (i := 35) rfl), rfl⟩
theorem tw_36 : Jvm.Cond.fieldLink "LetHoles$Wheel" (156 : Nat) "LetHoles$Deeds" "ownerKind" "[I" ∈ lw_g := List.mem_filter.mpr ⟨mj_1 (List.mem_of_getElem? (i := 36) rfl), rfl⟩
theorem tw_37 : Jvm.Cond.fieldLink "LetHoles$Deeds" (22 : Nat) "LetHoles$Deeds" "rowOwner" "[I" ∈ lw_g := List.mem_filter.mpr ⟨mj_1 (List.mem_of_getElem? (i := 37) rfl), rfl⟩
theorem tw_38 : Jvm.Cond.fieldLink "LetHoles$Wheel" (101 : Nat) "LetHoles$Deeds" "rowOwner" "[I" ∈ lw_g := List.mem_filter.mpr ⟨mj_1 (List.mem_of_getElem? (i := 38) rfl), rfl⟩
theorem tw_39 : Jvm.Cond.fieldLink "LetHoles$Deeds" (25 : Nat) "LetHoles$Deeds" "holeKind" "[I" ∈ lw_g := List.mem_filter.mpr ⟨mj_1 (List.mem_of_getElem? (i := 39) rfl), rfl⟩
theorem tw_40 : Jvm.Cond.fieldLink "LetHoles" (116 : Nat) "LetHoles$Deeds" "holeKind" "[I" ∈ lw_g := List.mem_filter.mpr ⟨mj_1 (List.mem_of_getElem? (i := 40) rfl), rfl⟩
theorem tw_41 : Jvm.Cond.fieldLink "LetHoles$Wheel" (122 : Nat) "LetHoles$Deeds" "holeKind" "[I" ∈ lw_g := List.mem_filter.mpr ⟨mj_1 (List.mem_of_getElem? (i := 41) rfl), rfl⟩
theorem tw_42 : Jvm.Cond.fieldLink "LetHoles$Deeds" (28 : Nat) "LetHoles$Deeds" "holeOwner" "[I" ∈ lw_g := List.mem_filter.mpr ⟨mj_1 (List.mem_of_getElem? (i := 42) rfl), rfl⟩
theorem tw_43 : Jvm.Cond.fieldLink "LetHoles$Wheel" (58 : Nat) "LetHoles$Deeds" "holeOwner" "[I" ∈ lw_g := List.mem_filter.mpr ⟨mj_1 (List.mem_of_getElem? (i := 43) rfl), rfl⟩
theorem tw_44 : Jvm.Cond.fieldLink "LetHoles$Deeds" (31 : Nat) "LetHoles$Deeds" "holeCell" "[I" ∈ lw_g := List.mem_filter.mpr ⟨mj_1 (List.mem_of_getElem? (i := 44) rfl), rfl⟩
theorem tw_45 : Jvm.Cond.fieldLink "LetHoles$Wheel" (49 : Nat) "LetHoles$Deeds" "holeCell" "[I" ∈ lw_g := List.mem_filter.mpr ⟨mj_1 (List.mem_of_getElem? (i := 45) rfl), rfl⟩
theorem tw_46 : Jvm.Cond.fieldLink "LetHoles$Deeds" (34 : Nat) "LetHoles$Deeds" "monkCells" "I" ∈ lw_g := List.mem_filter.mpr ⟨mj_1 (List.mem_of_getElem? (i := 46) rfl), rfl⟩
theorem tw_47 : Jvm.Cond.fieldLink "LetHoles$Wheel" (80 : Nat) "LetHoles$Deeds" "monkCells" "I" ∈ lw_g := List.mem_filter.mpr ⟨mj_1 (List.mem_of_getElem? (i := 47) rfl), rfl⟩
theorem tw_48 : Jvm.Cond.fieldLink "LetHoles$Deeds" (37 : Nat) "LetHoles$Deeds" "rowsTold" "I" ∈ lw_g := List.mem_filter.mpr ⟨mj_1 (List.mem_of_getElem? (i := 48) rfl), rfl⟩
theorem tw_49 : Jvm.Cond.fieldLink "LetHoles$Deeds" (40 : Nat) "LetHoles$Deeds" "cellsTold" "I" ∈ lw_g := List.mem_filter.mpr ⟨mj_1 (List.mem_of_getElem? (i := 49) rfl), rfl⟩
theorem tw_50 : Jvm.Cond.fieldLink "LetHoles$Deeds" (43 : Nat) "LetHoles$Deeds" "part" "I" ∈ lw_g := List.mem_filter.mpr ⟨mj_1 (List.mem_of_getElem? (i := 50) rfl), rfl⟩
theorem tw_51 : Jvm.Cond.fieldLink "LetHoles$Deeds" (46 : Nat) "LetHoles$Deeds" "place" "I" ∈ lw_g := List.mem_filter.mpr ⟨mj_1 (List.mem_of_getElem? (i := 51) rfl), rfl⟩
theorem tw_52 : Jvm.Cond.fieldLink "LetHoles$Deeds" (49 : Nat) "LetHoles$Deeds" "toldFirst" "I" ∈ lw_g := List.mem_filter.mpr ⟨mj_1 (List.mem_of_getElem? (i := 52) rfl), rfl⟩
theorem tw_53 : Jvm.Cond.fieldLink "LetHoles$Deeds" (52 : Nat) "LetHoles$Deeds" "toldSecond" "I" ∈ lw_g := List.mem_filter.mpr ⟨mj_1 (List.mem_of_getElem? (i := 53) rfl), rfl⟩
theorem tw_54 : Jvm.Cond.lays "LetHoles$Deeds" "LetHoles$Deeds" "owners" "I" ∈ lw_g := List.mem_filter.mpr ⟨mj_1 (List.mem_of_getElem? (i := 54) rfl), rfl⟩
theorem tw_55 : Jvm.Cond.soleField "LetHoles$Deeds" "owners" ∈ lw_g := List.mem_filter.mpr ⟨mj_1 (List.mem_of_getElem? (i := 55) rfl), rfl⟩
theorem tw_56 : Jvm.Cond.lays "LetHoles$Deeds" "LetHoles$Deeds" "holes" "I" ∈ lw_g := List.mem_filter.mpr ⟨mj_1 (List.mem_of_getElem? (i := 56) rfl), rfl⟩
theorem tw_57 : Jvm.Cond.soleField "LetHoles$Deeds" "holes" ∈ lw_g := List.mem_filter.mpr ⟨mj_1 (List.mem_of_getElem? (i := 57) rfl), rfl⟩
theorem tw_58 : Jvm.Cond.laysFinal "LetHoles$Deeds" "LetHoles$Deeds" "ownerKind" "[I" ∈ lw_g := List.mem_filter.mpr ⟨mj_1 (List.mem_of_getElem? (i := 58) rfl), rfl⟩
theorem tw_59 : Jvm.Cond.soleField "LetHoles$Deeds" "ownerKind" ∈ lw_g := List.mem_filter.mpr ⟨mj_1 (List.mem_of_getElem? (i := 59) rfl), rfl⟩
theorem tw_60 : Jvm.Cond.laysFinal "LetHoles$Deeds" "LetHoles$Deeds" "rowOwner" "[I" ∈ lw_g := List.mem_filter.mpr ⟨mj_1 (List.mem_of_getElem? (i := 60) rfl), rfl⟩
theorem tw_61 : Jvm.Cond.soleField "LetHoles$Deeds" "rowOwner" ∈ lw_g := List.mem_filter.mpr ⟨mj_1 (List.mem_of_getElem? (i := 61) rfl), rfl⟩
theorem tw_62 : Jvm.Cond.laysFinal "LetHoles$Deeds" "LetHoles$Deeds" "holeKind" "[I" ∈ lw_g := List.mem_filter.mpr ⟨mj_1 (List.mem_of_getElem? (i := 62) rfl), rfl⟩
theorem tw_63 : Jvm.Cond.soleField "LetHoles$Deeds" "holeKind" ∈ lw_g := List.mem_filter.mpr ⟨mj_1 (List.mem_of_getElem? (i := 63) rfl), rfl⟩
theorem tw_64 : Jvm.Cond.laysFinal "LetHoles$Deeds" "LetHoles$Deeds" "holeOwner" "[I" ∈ lw_g := List.mem_filter.mpr ⟨mj_1 (List.mem_of_getElem? (i := 64) rfl), rfl⟩
theorem tw_65 : Jvm.Cond.soleField "LetHoles$Deeds" "holeOwner" ∈ lw_g := List.mem_filter.mpr ⟨mj_1 (List.mem_of_getElem? (i := 65) rfl), rfl⟩
theorem tw_66 : Jvm.Cond.laysFinal "LetHoles$Deeds" "LetHoles$Deeds" "holeCell" "[I" ∈ lw_g := List.mem_filter.mpr ⟨mj_1 (List.mem_of_getElem? (i := 66) rfl), rfl⟩
theorem tw_67 : Jvm.Cond.soleField "LetHoles$Deeds" "holeCell" ∈ lw_g := List.mem_filter.mpr ⟨mj_1 (List.mem_of_getElem? (i := 67) rfl), rfl⟩
theorem tw_68 : Jvm.Cond.lays "LetHoles$Deeds" "LetHoles$Deeds" "monkCells" "I" ∈ lw_g := List.mem_filter.mpr ⟨mj_1 (List.mem_of_getElem? (i := 68) rfl), rfl⟩
theorem tw_69 : Jvm.Cond.soleField "LetHoles$Deeds" "monkCells" ∈ lw_g := List.mem_filter.mpr ⟨mj_1 (List.mem_of_getElem? (i := 69) rfl), rfl⟩
theorem tw_70 : Jvm.Cond.lays "LetHoles$Deeds" "LetHoles$Deeds" "rowsTold" "I" ∈ lw_g := List.mem_filter.mpr ⟨mj_1 (List.mem_of_getElem? (i := 70) rfl), rfl⟩
theorem tw_71 : Jvm.Cond.soleField "LetHoles$Deeds" "rowsTold" ∈ lw_g := List.mem_filter.mpr ⟨mj_1 (List.mem_of_getElem? (i := 71) rfl), rfl⟩
theorem tw_72 : Jvm.Cond.lays "LetHoles$Deeds" "LetHoles$Deeds" "cellsTold" "I" ∈ lw_g := List.mem_filter.mpr ⟨mj_1 (List.mem_of_getElem? (i := 72) rfl), rfl⟩
theorem tw_73 : Jvm.Cond.soleField "LetHoles$Deeds" "cellsTold" ∈ lw_g := List.mem_filter.mpr ⟨mj_1 (List.mem_of_getElem? (i := 73) rfl), rfl⟩
theorem tw_74 : Jvm.Cond.lays "LetHoles$Deeds" "LetHoles$Deeds" "part" "I" ∈ lw_g := List.mem_filter.mpr ⟨mj_1 (List.mem_of_getElem? (i := 74) rfl), rfl⟩
theorem tw_75 : Jvm.Cond.soleField "LetHoles$Deeds" "part" ∈ lw_g := List.mem_filter.mpr ⟨mj_1 (List.mem_of_getElem? (i := 75) rfl), rfl⟩
theorem tw_76 : Jvm.Cond.lays "LetHoles$Deeds" "LetHoles$Deeds" "place" "I" ∈ lw_g := List.mem_filter.mpr ⟨mj_1 (List.mem_of_getElem? (i := 76) rfl), rfl⟩
theorem tw_77 : Jvm.Cond.soleField "LetHoles$Deeds" "place" ∈ lw_g := List.mem_filter.mpr ⟨mj_1 (List.mem_of_getElem? (i := 77) rfl), rfl⟩
theorem tw_78 : Jvm.Cond.lays "LetHoles$Deeds" "LetHoles$Deeds" "toldFirst" "I" ∈ lw_g := List.mem_filter.mpr ⟨mj_1 (List.mem_of_getElem? (i := 78) rfl), rfl⟩
theorem tw_79 : Jvm.Cond.soleField "LetHoles$Deeds" "toldFirst" ∈ lw_g := List.mem_filter.mpr ⟨mj_1 (List.mem_of_getElem? (i := 79) rfl), rfl⟩
theorem tw_80 : Jvm.Cond.lays "LetHoles$Deeds" "LetHoles$Deeds" "toldSecond" "I" ∈ lw_g := List.mem_filter.mpr ⟨mj_1 (List.mem_of_getElem? (i := 80) rfl), rfl⟩
theorem tw_81 : Jvm.Cond.soleField "LetHoles$Deeds" "toldSecond" ∈ lw_g := List.mem_filter.mpr ⟨mj_1 (List.mem_of_getElem? (i := 81) rfl), rfl⟩
theorem tw_82 : Jvm.Cond.superclass "LetHoles$Deeds" "java/lang/Object" ∈ lw_g := List.mem_filter.mpr ⟨mj_1 (List.mem_of_getElem? (i := 82) rfl), rfl⟩
theorem tw_83 : Jvm.Cond.arrayClass Jvm.ClassFile.FieldType.int ∈ lw_g := List.mem_filter.mpr ⟨mj_1 (List.mem_of_getElem? (i := 83) rfl), rfl⟩
theorem tw_84 : Jvm.Cond.classLink "LetHoles" (30 : Nat) "LetHoles$Wheel" ∈ lw_g := List.mem_filter.mpr ⟨mj_1 (List.mem_of_getElem? (i := 84) rfl), rfl⟩
theorem tw_85 : Jvm.Cond.instantiable "LetHoles$Wheel" (6 : Nat) ∈ lw_g := List.mem_filter.mpr ⟨mj_1 (List.mem_of_getElem? (i := 85) rfl), rfl⟩
theorem tw_86 : Jvm.Cond.methodLink "LetHoles" (32 : Nat) ({ cls := "LetHoles$Wheel", name := "<init>", desc := "()V" } : Jvm.MethodName) ∈ lw_g := List.mem_filter.mpr ⟨mj_1 (List.mem_of_getElem? (i := 86) rfl), rfl⟩
theorem tw_87 : Jvm.Cond.instanceMethod ({ cls := "LetHoles$Wheel", name := "<init>", desc := "()V" } : Jvm.MethodName) ∈ lw_g := List.mem_filter.mpr ⟨mj_1 (List.mem_of_getElem? (i := 87) rfl), rfl⟩
theorem tw_88 : Jvm.Cond.code ({ cls := "LetHoles$Wheel", name := "<init>", desc := "()V" } : Jvm.MethodName) prog_7_method_1_code (1 : Nat) (Option.none : Option Jvm.ClassFile.FieldType) ∈ lw_g := List.mem_filter.mpr ⟨mj_1 (List.mem_of_getElem? (i := 88) rfl), rfl⟩
theorem tw_89 : Jvm.Cond.methodLink "LetHoles$Wheel" (3 : Nat) ({ cls := "java/lang/Object", name := "<init>", desc := "()V" } : Jvm.MethodName) ∈ lw_g := List.mem_filter.mpr ⟨mj_1 (List.mem_of_getElem? (i := 89) rfl), rfl⟩
theorem tw_90 : Jvm.Cond.methodLink "LetHoles$Wheel" (31 : Nat) ({ cls := "java/util/Arrays", name := "fill", desc := "([II)V" } : Jvm.MethodName) ∈ lw_g := List.mem_filter.mpr ⟨mj_1 (List.mem_of_getElem? (i := 90) rfl), rfl⟩
theorem tw_91 : Jvm.Cond.fieldLink "LetHoles$Wheel" (9 : Nat) "LetHoles$Wheel" "cellsOf" "[I" ∈ lw_g := List.mem_filter.mpr ⟨mj_1 (List.mem_of_getElem? (i := 91) rfl), rfl⟩
theorem tw_92 : Jvm.Cond.fieldLink "LetHoles$Wheel" (15 : Nat) "LetHoles$Wheel" "ownerOf" "[I" ∈ lw_g := List.mem_filter.mpr ⟨mj_1 (List.mem_of_getElem? (i := 92) rfl), rfl⟩
theorem tw_93 : Jvm.Cond.fieldLink "LetHoles" (119 : Nat) "LetHoles$Wheel" "ownerOf" "[I" ∈ lw_g := List.mem_filter.mpr ⟨mj_1 (List.mem_of_getElem? (i := 93) rfl), rfl⟩
theorem tw_94 : Jvm.Cond.fieldLink "LetHoles$Wheel" (18 : Nat) "LetHoles$Wheel" "tenantOf" "[I" ∈ lw_g := List.mem_filter.mpr ⟨mj_1 (List.mem_of_getElem? (i := 94) rfl), rfl⟩
theorem tw_95 : Jvm.Cond.fieldLink "LetHoles" (122 : Nat) "LetHoles$Wheel" "tenantOf" "[I" ∈ lw_g := List.mem_filter.mpr ⟨mj_1 (List.mem_of_getElem? (i := 95) rfl), rfl⟩
theorem tw_96 : Jvm.Cond.fieldLink "LetHoles$Wheel" (21 : Nat) "LetHoles$Wheel" "balance" "[I" ∈ lw_g := List.mem_filter.mpr ⟨mj_1 (List.mem_of_getElem? (i := 96) rfl), rfl⟩
theorem tw_97 : Jvm.Cond.fieldLink "LetHoles" (94 : Nat) "LetHoles$Wheel" "balance" "[I" ∈ lw_g := List.mem_filter.mpr ⟨mj_1 (List.mem_of_getElem? (i := 97) rfl), rfl⟩
theorem tw_98 : Jvm.Cond.fieldLink "LetHoles$Wheel" (24 : Nat) "LetHoles$Wheel" "eaten" "I" ∈ lw_g := List.mem_filter.mpr ⟨mj_1 (List.mem_of_getElem? (i := 98) rfl), rfl⟩
theorem tw_99 : Jvm.Cond.fieldLink "LetHoles" (279 : Nat) "LetHoles$Wheel" "eaten" "I" ∈ lw_g := List.mem_filter.mpr ⟨mj_1 (List.mem_of_getElem? (i := 99) rfl), rfl⟩
theorem tw_100 : Jvm.Cond.fieldLink "LetHoles$Wheel" (28 : Nat) "LetHoles$Wheel" "days" "I" ∈ lw_g := List.mem_filter.mpr ⟨mj_1 (List.mem_of_getElem? (i := 100) rfl), rfl⟩
theorem tw_101 : Jvm.Cond.fieldLink "LetHoles" (276 : Nat) "LetHoles$Wheel" "days" "I" ∈ lw_g := List.mem_filter.mpr ⟨mj_1 (List.mem_of_getElem? (i := 101) rfl), rfl⟩
theorem tw_102 : Jvm.Cond.laysFinal "LetHoles$Wheel" "LetHoles$Wheel" "cellsOf" "[I" ∈ lw_g := List.mem_filter.mpr ⟨mj_1 (List.mem_of_getElem? (i := 102) rfl), rfl⟩
theorem tw_103 : Jvm.Cond.soleField "LetHoles$Wheel" "cellsOf" ∈ lw_g := List.mem_filter.mpr ⟨mj_1 (List.mem_of_getElem? (i := 103) rfl), rfl⟩
theorem tw_104 : Jvm.Cond.laysFinal "LetHoles$Wheel" "LetHoles$Wheel" "ownerOf" "[I" ∈ lw_g := List.mem_filter.mpr ⟨mj_1 (List.mem_of_getElem? (i := 104) rfl), rfl⟩
theorem tw_105 : Jvm.Cond.soleField "LetHoles$Wheel" "ownerOf" ∈ lw_g := List.mem_filter.mpr ⟨mj_1 (List.mem_of_getElem? (i := 105) rfl), rfl⟩
theorem tw_106 : Jvm.Cond.laysFinal "LetHoles$Wheel" "LetHoles$Wheel" "tenantOf" "[I" ∈ lw_g := List.mem_filter.mpr ⟨mj_1 (List.mem_of_getElem? (i := 106) rfl), rfl⟩
theorem tw_107 : Jvm.Cond.soleField "LetHoles$Wheel" "tenantOf" ∈ lw_g := List.mem_filter.mpr ⟨mj_1 (List.mem_of_getElem? (i := 107) rfl), rfl⟩
theorem tw_108 : Jvm.Cond.laysFinal "LetHoles$Wheel" "LetHoles$Wheel" "balance" "[I" ∈ lw_g := List.mem_filter.mpr ⟨mj_1 (List.mem_of_getElem? (i := 108) rfl), rfl⟩
theorem tw_109 : Jvm.Cond.soleField "LetHoles$Wheel" "balance" ∈ lw_g := List.mem_filter.mpr ⟨mj_1 (List.mem_of_getElem? (i := 109) rfl), rfl⟩
theorem tw_110 : Jvm.Cond.lays "LetHoles$Wheel" "LetHoles$Wheel" "eaten" "I" ∈ lw_g := List.mem_filter.mpr ⟨mj_1 (List.mem_of_getElem? (i := 110) rfl), rfl⟩
theorem tw_111 : Jvm.Cond.soleField "LetHoles$Wheel" "eaten" ∈ lw_g := List.mem_filter.mpr ⟨mj_1 (List.mem_of_getElem? (i := 111) rfl), rfl⟩
theorem tw_112 : Jvm.Cond.lays "LetHoles$Wheel" "LetHoles$Wheel" "days" "I" ∈ lw_g := List.mem_filter.mpr ⟨mj_1 (List.mem_of_getElem? (i := 112) rfl), rfl⟩
theorem tw_113 : Jvm.Cond.soleField "LetHoles$Wheel" "days" ∈ lw_g := List.mem_filter.mpr ⟨mj_1 (List.mem_of_getElem? (i := 113) rfl), rfl⟩
theorem tw_114 : Jvm.Cond.superclass "LetHoles$Wheel" "java/lang/Object" ∈ lw_g := List.mem_filter.mpr ⟨mj_1 (List.mem_of_getElem? (i := 114) rfl), rfl⟩
theorem tw_115 : Jvm.Cond.classLink "LetHoles" (40 : Nat) "LetHoles$Acts" ∈ lw_g := List.mem_filter.mpr ⟨mj_1 (List.mem_of_getElem? (i := 115) rfl), rfl⟩
theorem tw_116 : Jvm.Cond.instantiable "LetHoles$Acts" (2 : Nat) ∈ lw_g := List.mem_filter.mpr ⟨mj_1 (List.mem_of_getElem? (i := 116) rfl), rfl⟩
theorem tw_117 : Jvm.Cond.methodLink "LetHoles" (42 : Nat) ({ cls := "LetHoles$Acts", name := "<init>", desc := "()V" } : Jvm.MethodName) ∈ lw_g := List.mem_filter.mpr ⟨mj_1 (List.mem_of_getElem? (i := 117) rfl), rfl⟩
theorem tw_118 : Jvm.Cond.instanceMethod ({ cls := "LetHoles$Acts", name := "<init>", desc := "()V" } : Jvm.MethodName) ∈ lw_g := List.mem_filter.mpr ⟨mj_1 (List.mem_of_getElem? (i := 118) rfl), rfl⟩
theorem tw_119 : Jvm.Cond.code ({ cls := "LetHoles$Acts", name := "<init>", desc := "()V" } : Jvm.MethodName) prog_2_method_1_code (2 : Nat) (Option.none : Option Jvm.ClassFile.FieldType) ∈ lw_g := List.mem_filter.mpr ⟨mj_1 (List.mem_of_getElem? (i := 119) rfl), rfl⟩
theorem tw_120 : Jvm.Cond.methodLink "LetHoles$Acts" (3 : Nat) ({ cls := "java/lang/Object", name := "<init>", desc := "()V" } : Jvm.MethodName) ∈ lw_g := List.mem_filter.mpr ⟨mj_1 (List.mem_of_getElem? (i := 120) rfl), rfl⟩
theorem tw_121 : Jvm.Cond.classLink "LetHoles$Acts" (9 : Nat) "LetHoles$Wheel" ∈ lw_g := List.mem_filter.mpr ⟨mj_1 (List.mem_of_getElem? (i := 121) rfl), rfl⟩
theorem tw_122 : Jvm.Cond.arrayOver (Jvm.ClassFile.FieldType.object "LetHoles$Wheel") ∈ lw_tbl := mj_1 (List.mem_of_getElem? (i := 122) rfl)
theorem tw_123 : Jvm.Cond.methodLink "LetHoles$Acts" (21 : Nat) ({ cls := "LetHoles$Wheel", name := "<init>", desc := "()V" } : Jvm.MethodName) ∈ lw_g := List.mem_filter.mpr ⟨mj_1 (List.mem_of_getElem? (i := 123) rfl), rfl⟩
theorem tw_124 : Jvm.Cond.fieldLink "LetHoles$Acts" (11 : Nat) "LetHoles$Acts" "before" "[LLetHoles$Wheel;" ∈ lw_g := List.mem_filter.mpr ⟨mj_1 (List.mem_of_getElem? (i := 124) rfl), rfl⟩
theorem tw_125 : Jvm.Cond.fieldLink "LetHoles$Acts" (17 : Nat) "LetHoles$Acts" "size" "I" ∈ lw_g := List.mem_filter.mpr ⟨mj_1 (List.mem_of_getElem? (i := 125) rfl), rfl⟩
theorem tw_126 : Jvm.Cond.fieldLink "LetHoles" (173 : Nat) "LetHoles$Acts" "size" "I" ∈ lw_g := List.mem_filter.mpr ⟨mj_1 (List.mem_of_getElem? (i := 126) rfl), rfl⟩
theorem tw_127 : Jvm.Cond.laysFinal "LetHoles$Acts" "LetHoles$Acts" "before" "[LLetHoles$Wheel;" ∈ lw_g := List.mem_filter.mpr ⟨mj_1 (List.mem_of_getElem? (i := 127) rfl), rfl⟩
theorem tw_128 : Jvm.Cond.soleField "LetHoles$Acts" "before" ∈ lw_g := List.mem_filter.mpr ⟨mj_1 (List.mem_of_getElem? (i := 128) rfl), rfl⟩
theorem tw_129 : Jvm.Cond.lays "LetHoles$Acts" "LetHoles$Acts" "size" "I" ∈ lw_g := List.mem_filter.mpr ⟨mj_1 (List.mem_of_getElem? (i := 129) rfl), rfl⟩
theorem tw_130 : Jvm.Cond.soleField "LetHoles$Acts" "size" ∈ lw_g := List.mem_filter.mpr ⟨mj_1 (List.mem_of_getElem? (i := 130) rfl), rfl⟩
theorem tw_131 : Jvm.Cond.superclass "LetHoles$Acts" "java/lang/Object" ∈ lw_g := List.mem_filter.mpr ⟨mj_1 (List.mem_of_getElem? (i := 131) rfl), rfl⟩
theorem tw_132 : Jvm.Cond.classLink "LetHoles" (54 : Nat) "LetHoles$Tasted" ∈ lw_g := List.mem_filter.mpr ⟨mj_1 (List.mem_of_getElem? (i := 132) rfl), rfl⟩
theorem tw_133 : Jvm.Cond.instantiable "LetHoles$Tasted" (4 : Nat) ∈ lw_g := List.mem_filter.mpr ⟨mj_1 (List.mem_of_getElem? (i := 133) rfl), rfl⟩
theorem tw_134 : Jvm.Cond.methodLinkNest "LetHoles" (56 : Nat) ({ cls := "LetHoles$Tasted", name := "<init>", desc := "()V" } : Jvm.MethodName) "LetHoles" ∈ lw_tbl := mj_1 (List.mem_of_getElem? (i := 134) rfl)
theorem tw_135 : Jvm.Cond.instanceMethod ({ cls := "LetHoles$Tasted", name := "<init>", desc := "()V" } : Jvm.MethodName) ∈ lw_g := List.mem_filter.mpr ⟨mj_1 (List.mem_of_getElem? (i := 135) rfl), rfl⟩
theorem tw_136 : Jvm.Cond.code ({ cls := "LetHoles$Tasted", name := "<init>", desc := "()V" } : Jvm.MethodName) prog_6_method_1_code (1 : Nat) (Option.none : Option Jvm.ClassFile.FieldType) ∈ lw_g := List.mem_filter.mpr ⟨mj_1 (List.mem_of_getElem? (i := 136) rfl), rfl⟩
theorem tw_137 : Jvm.Cond.methodLink "LetHoles$Tasted" (3 : Nat) ({ cls := "java/lang/Object", name := "<init>", desc := "()V" } : Jvm.MethodName) ∈ lw_g := List.mem_filter.mpr ⟨mj_1 (List.mem_of_getElem? (i := 137) rfl), rfl⟩
theorem tw_138 : Jvm.Cond.fieldLink "LetHoles$Tasted" (9 : Nat) "LetHoles$Tasted" "cells" "[I" ∈ lw_g := List.mem_filter.mpr ⟨mj_1 (List.mem_of_getElem? (i := 138) rfl), rfl⟩
theorem tw_139 : Jvm.Cond.fieldLink "LetHoles$Tasted" (15 : Nat) "LetHoles$Tasted" "daysOf" "[I" ∈ lw_g := List.mem_filter.mpr ⟨mj_1 (List.mem_of_getElem? (i := 139) rfl), rfl⟩
theorem tw_140 : Jvm.Cond.fieldLink "LetHoles$Tasted" (18 : Nat) "LetHoles$Tasted" "wasHole" "[Z" ∈ lw_g := List.mem_filter.mpr ⟨mj_1 (List.mem_of_getElem? (i := 140) rfl), rfl⟩
theorem tw_141 : Jvm.Cond.fieldLink "LetHoles$Tasted" (22 : Nat) "LetHoles$Tasted" "size" "I" ∈ lw_g := List.mem_filter.mpr ⟨mj_1 (List.mem_of_getElem? (i := 141) rfl), rfl⟩
theorem tw_142 : Jvm.Cond.fieldLink "LetHoles" (215 : Nat) "LetHoles$Tasted" "size" "I" ∈ lw_g := List.mem_filter.mpr ⟨mj_1 (List.mem_of_getElem? (i := 142) rfl), rfl⟩
theorem tw_143 : Jvm.Cond.laysFinal "LetHoles$Tasted" "LetHoles$Tasted" "cells" "[I" ∈ lw_g := List.mem_filter.mpr ⟨mj_1 (List.mem_of_getElem? (i := 143) rfl), rfl⟩
theorem tw_144 : Jvm.Cond.soleField "LetHoles$Tasted" "cells" ∈ lw_g := List.mem_filter.mpr ⟨mj_1 (List.mem_of_getElem? (i := 144) rfl), rfl⟩
theorem tw_145 : Jvm.Cond.laysFinal "LetHoles$Tasted" "LetHoles$Tasted" "daysOf" "[I" ∈ lw_g := List.mem_filter.mpr ⟨mj_1 (List.mem_of_getElem? (i := 145) rfl), rfl⟩
theorem tw_146 : Jvm.Cond.soleField "LetHoles$Tasted" "daysOf" ∈ lw_g := List.mem_filter.mpr ⟨mj_1 (List.mem_of_getElem? (i := 146) rfl), rfl⟩
theorem tw_147 : Jvm.Cond.laysFinal "LetHoles$Tasted" "LetHoles$Tasted" "wasHole" "[Z" ∈ lw_g := List.mem_filter.mpr ⟨mj_1 (List.mem_of_getElem? (i := 147) rfl), rfl⟩
theorem tw_148 : Jvm.Cond.soleField "LetHoles$Tasted" "wasHole" ∈ lw_g := List.mem_filter.mpr ⟨mj_1 (List.mem_of_getElem? (i := 148) rfl), rfl⟩
theorem tw_149 : Jvm.Cond.lays "LetHoles$Tasted" "LetHoles$Tasted" "size" "I" ∈ lw_g := List.mem_filter.mpr ⟨mj_1 (List.mem_of_getElem? (i := 149) rfl), rfl⟩
theorem tw_150 : Jvm.Cond.soleField "LetHoles$Tasted" "size" ∈ lw_g := List.mem_filter.mpr ⟨mj_1 (List.mem_of_getElem? (i := 150) rfl), rfl⟩
theorem tw_151 : Jvm.Cond.superclass "LetHoles$Tasted" "java/lang/Object" ∈ lw_g := List.mem_filter.mpr ⟨mj_1 (List.mem_of_getElem? (i := 151) rfl), rfl⟩
theorem tw_152 : Jvm.Cond.arrayClass Jvm.ClassFile.FieldType.boolean ∈ lw_g := List.mem_filter.mpr ⟨mj_1 (List.mem_of_getElem? (i := 152) rfl), rfl⟩
theorem tw_153 : Jvm.Cond.fieldLink "LetHoles" (9 : Nat) "LetHoles" "text" "[I" ∈ lw_g := List.mem_filter.mpr ⟨mj_1 (List.mem_of_getElem? (i := 153) rfl), rfl⟩
theorem tw_154 : Jvm.Cond.fieldLink "LetHoles" (13 : Nat) "LetHoles" "letters" "I" ∈ lw_g := List.mem_filter.mpr ⟨mj_1 (List.mem_of_getElem? (i := 154) rfl), rfl⟩
theorem tw_155 : Jvm.Cond.fieldLink "LetHoles" (20 : Nat) "LetHoles" "deeds" "LLetHoles$Deeds;" ∈ lw_g := List.mem_filter.mpr ⟨mj_1 (List.mem_of_getElem? (i := 155) rfl), rfl⟩
theorem tw_156 : Jvm.Cond.fieldLink "LetHoles" (24 : Nat) "LetHoles" "draft" "LLetHoles$Deeds;" ∈ lw_g := List.mem_filter.mpr ⟨mj_1 (List.mem_of_getElem? (i := 156) rfl), rfl⟩
theorem tw_157 : Jvm.Cond.fieldLink "LetHoles" (27 : Nat) "LetHoles" "lone" "LLetHoles$Deeds;" ∈ lw_g := List.mem_filter.mpr ⟨mj_1 (List.mem_of_getElem? (i := 157) rfl), rfl⟩
theorem tw_158 : Jvm.Cond.fieldLink "LetHoles" (33 : Nat) "LetHoles" "wheel" "LLetHoles$Wheel;" ∈ lw_g := List.mem_filter.mpr ⟨mj_1 (List.mem_of_getElem? (i := 158) rfl), rfl⟩
theorem tw_159 : Jvm.Cond.fieldLink "LetHoles" (37 : Nat) "LetHoles" "trial" "LLetHoles$Wheel;" ∈ lw_g := List.mem_filter.mpr ⟨mj_1 (List.mem_of_getElem? (i := 159) rfl), rfl⟩
theorem tw_160 : Jvm.Cond.fieldLink "LetHoles" (43 : Nat) "LetHoles" "acts" "LLetHoles$Acts;" ∈ lw_g := List.mem_filter.mpr ⟨mj_1 (List.mem_of_getElem? (i := 160) rfl), rfl⟩
theorem tw_161 : Jvm.Cond.fieldLink "LetHoles" (47 : Nat) "LetHoles" "slots" "[LLetHoles$Wheel;" ∈ lw_g := List.mem_filter.mpr ⟨mj_1 (List.mem_of_getElem? (i := 161) rfl), rfl⟩
theorem tw_162 : Jvm.Cond.fieldLink "LetHoles" (51 : Nat) "LetHoles" "keptSlots" "I" ∈ lw_g := List.mem_filter.mpr ⟨mj_1 (List.mem_of_getElem? (i := 162) rfl), rfl⟩
theorem tw_163 : Jvm.Cond.fieldLink "LetHoles" (57 : Nat) "LetHoles" "tasted" "LLetHoles$Tasted;" ∈ lw_g := List.mem_filter.mpr ⟨mj_1 (List.mem_of_getElem? (i := 163) rfl), rfl⟩
theorem tw_164 : Jvm.Cond.fieldLink "LetHoles" (61 : Nat) "LetHoles" "theSeed" "J" ∈ lw_g := List.mem_filter.mpr ⟨mj_1 (List.mem_of_getElem? (i := 164) rfl), rfl⟩
theorem tw_165 : Jvm.Cond.laysFinal "LetHoles" "LetHoles" "text" "[I" ∈ lw_g := List.mem_filter.mpr ⟨mj_1 (List.mem_of_getElem? (i := 165) rfl), rfl⟩
theorem tw_166 : Jvm.Cond.soleField "LetHoles" "text" ∈ lw_g := List.mem_filter.mpr ⟨mj_1 (List.mem_of_getElem? (i := 166) rfl), rfl⟩
theorem tw_167 : Jvm.Cond.lays "LetHoles" "LetHoles" "letters" "I" ∈ lw_g := List.mem_filter.mpr ⟨mj_1 (List.mem_of_getElem? (i := 167) rfl), rfl⟩
theorem tw_168 : Jvm.Cond.soleField "LetHoles" "letters" ∈ lw_g := List.mem_filter.mpr ⟨mj_1 (List.mem_of_getElem? (i := 168) rfl), rfl⟩
theorem tw_169 : Jvm.Cond.lays "LetHoles" "LetHoles" "deeds" "LLetHoles$Deeds;" ∈ lw_g := List.mem_filter.mpr ⟨mj_1 (List.mem_of_getElem? (i := 169) rfl), rfl⟩
theorem tw_170 : Jvm.Cond.soleField "LetHoles" "deeds" ∈ lw_g := List.mem_filter.mpr ⟨mj_1 (List.mem_of_getElem? (i := 170) rfl), rfl⟩
theorem tw_171 : Jvm.Cond.lays "LetHoles" "LetHoles" "draft" "LLetHoles$Deeds;" ∈ lw_g := List.mem_filter.mpr ⟨mj_1 (List.mem_of_getElem? (i := 171) rfl), rfl⟩
theorem tw_172 : Jvm.Cond.soleField "LetHoles" "draft" ∈ lw_g := List.mem_filter.mpr ⟨mj_1 (List.mem_of_getElem? (i := 172) rfl), rfl⟩
theorem tw_173 : Jvm.Cond.laysFinal "LetHoles" "LetHoles" "lone" "LLetHoles$Deeds;" ∈ lw_g := List.mem_filter.mpr ⟨mj_1 (List.mem_of_getElem? (i := 173) rfl), rfl⟩
theorem tw_174 : Jvm.Cond.soleField "LetHoles" "lone" ∈ lw_g := List.mem_filter.mpr ⟨mj_1 (List.mem_of_getElem? (i := 174) rfl), rfl⟩
theorem tw_175 : Jvm.Cond.laysFinal "LetHoles" "LetHoles" "wheel" "LLetHoles$Wheel;" ∈ lw_g := List.mem_filter.mpr ⟨mj_1 (List.mem_of_getElem? (i := 175) rfl), rfl⟩
theorem tw_176 : Jvm.Cond.soleField "LetHoles" "wheel" ∈ lw_g := List.mem_filter.mpr ⟨mj_1 (List.mem_of_getElem? (i := 176) rfl), rfl⟩
theorem tw_177 : Jvm.Cond.laysFinal "LetHoles" "LetHoles" "trial" "LLetHoles$Wheel;" ∈ lw_g := List.mem_filter.mpr ⟨mj_1 (List.mem_of_getElem? (i := 177) rfl), rfl⟩
theorem tw_178 : Jvm.Cond.soleField "LetHoles" "trial" ∈ lw_g := List.mem_filter.mpr ⟨mj_1 (List.mem_of_getElem? (i := 178) rfl), rfl⟩
theorem tw_179 : Jvm.Cond.laysFinal "LetHoles" "LetHoles" "acts" "LLetHoles$Acts;" ∈ lw_g := List.mem_filter.mpr ⟨mj_1 (List.mem_of_getElem? (i := 179) rfl), rfl⟩
theorem tw_180 : Jvm.Cond.soleField "LetHoles" "acts" ∈ lw_g := List.mem_filter.mpr ⟨mj_1 (List.mem_of_getElem? (i := 180) rfl), rfl⟩
theorem tw_181 : Jvm.Cond.laysFinal "LetHoles" "LetHoles" "slots" "[LLetHoles$Wheel;" ∈ lw_g := List.mem_filter.mpr ⟨mj_1 (List.mem_of_getElem? (i := 181) rfl), rfl⟩
theorem tw_182 : Jvm.Cond.soleField "LetHoles" "slots" ∈ lw_g := List.mem_filter.mpr ⟨mj_1 (List.mem_of_getElem? (i := 182) rfl), rfl⟩
theorem tw_183 : Jvm.Cond.lays "LetHoles" "LetHoles" "keptSlots" "I" ∈ lw_g := List.mem_filter.mpr ⟨mj_1 (List.mem_of_getElem? (i := 183) rfl), rfl⟩
theorem tw_184 : Jvm.Cond.soleField "LetHoles" "keptSlots" ∈ lw_g := List.mem_filter.mpr ⟨mj_1 (List.mem_of_getElem? (i := 184) rfl), rfl⟩
theorem tw_185 : Jvm.Cond.laysFinal "LetHoles" "LetHoles" "tasted" "LLetHoles$Tasted;" ∈ lw_g := List.mem_filter.mpr ⟨mj_1 (List.mem_of_getElem? (i := 185) rfl), rfl⟩
theorem tw_186 : Jvm.Cond.soleField "LetHoles" "tasted" ∈ lw_g := List.mem_filter.mpr ⟨mj_1 (List.mem_of_getElem? (i := 186) rfl), rfl⟩
theorem tw_187 : Jvm.Cond.lays "LetHoles" "LetHoles" "theSeed" "J" ∈ lw_g := List.mem_filter.mpr ⟨mj_1 (List.mem_of_getElem? (i := 187) rfl), rfl⟩
theorem tw_188 : Jvm.Cond.soleField "LetHoles" "theSeed" ∈ lw_g := List.mem_filter.mpr ⟨mj_1 (List.mem_of_getElem? (i := 188) rfl), rfl⟩
theorem tw_189 : Jvm.Cond.superclass "LetHoles" "java/lang/Object" ∈ lw_g := List.mem_filter.mpr ⟨mj_1 (List.mem_of_getElem? (i := 189) rfl), rfl⟩
theorem tw_190 : Jvm.Cond.methodLink "LetHolesLaw" (13 : Nat) ({ cls := "LetHoles", name := "write", desc := "(I)I" } : Jvm.MethodName) ∈ lw_g := List.mem_filter.mpr ⟨mj_1 (List.mem_of_getElem? (i := 190) rfl), rfl⟩
theorem tw_191 : Jvm.Cond.instanceMethod ({ cls := "LetHoles", name := "write", desc := "(I)I" } : Jvm.MethodName) ∈ lw_g := List.mem_filter.mpr ⟨mj_1 (List.mem_of_getElem? (i := 191) rfl), rfl⟩
theorem tw_192 : Jvm.Cond.selects "LetHoles" ({ cls := "LetHoles", name := "write", desc := "(I)I" } : Jvm.MethodName) ({ cls := "LetHoles", name := "write", desc := "(I)I" } : Jvm.MethodName) ∈ lw_g := List.mem_filter.mpr ⟨mj_1 (List.mem_of_getElem? (i := 192) rfl), rfl⟩
theorem tw_193 : Jvm.Cond.code ({ cls := "LetHoles", name := "write", desc := "(I)I" } : Jvm.MethodName) prog_1_method_2_code (2 : Nat) (Option.some Jvm.ClassFile.FieldType.int) ∈ lw_g := List.mem_filter.mpr ⟨mj_1 (List.mem_of_getElem? (i := 193) rfl), rfl⟩
theorem tw_194 : Jvm.Cond.methodLink "LetHolesLaw" (18 : Nat) ({ cls := "LetHoles", name := "wipe", desc := "()I" } : Jvm.MethodName) ∈ lw_g := List.mem_filter.mpr ⟨mj_1 (List.mem_of_getElem? (i := 194) rfl), rfl⟩
theorem tw_195 : Jvm.Cond.instanceMethod ({ cls := "LetHoles", name := "wipe", desc := "()I" } : Jvm.MethodName) ∈ lw_g := List.mem_filter.mpr ⟨mj_1 (List.mem_of_getElem? (i := 195) rfl), rfl⟩
theorem tw_196 : Jvm.Cond.selects "LetHoles" ({ cls := "LetHoles", name := "wipe", desc := "()I" } : Jvm.MethodName) ({ cls := "LetHoles", name := "wipe", desc := "()I" } : Jvm.MethodName) ∈ lw_g := List.mem_filter.mpr ⟨mj_1 (List.mem_of_getElem? (i := 196) rfl), rfl⟩
theorem tw_197 : Jvm.Cond.code ({ cls := "LetHoles", name := "wipe", desc := "()I" } : Jvm.MethodName) prog_1_method_3_code (2 : Nat) (Option.some Jvm.ClassFile.FieldType.int) ∈ lw_g := List.mem_filter.mpr ⟨mj_1 (List.mem_of_getElem? (i := 197) rfl), rfl⟩
theorem tw_198 : Jvm.Cond.methodLink "LetHolesLaw" (23 : Nat) ({ cls := "LetHoles", name := "fault", desc := "()I" } : Jvm.MethodName) ∈ lw_g := List.mem_filter.mpr ⟨mj_1 (List.mem_of_getElem? (i := 198) rfl), rfl⟩
theorem tw_199 : Jvm.Cond.instanceMethod ({ cls := "LetHoles", name := "fault", desc := "()I" } : Jvm.MethodName) ∈ lw_g := List.mem_filter.mpr ⟨mj_1 (List.mem_of_getElem? (i := 199) rfl), rfl⟩
theorem tw_200 : Jvm.Cond.selects "LetHoles" ({ cls := "LetHoles", name := "fault", desc := "()I" } : Jvm.MethodName) ({ cls := "LetHoles", name := "fault", desc := "()I" } : Jvm.MethodName) ∈ lw_g := List.mem_filter.mpr ⟨mj_1 (List.mem_of_getElem? (i := 200) rfl), rfl⟩
theorem tw_201 : Jvm.Cond.code ({ cls := "LetHoles", name := "fault", desc := "()I" } : Jvm.MethodName) prog_1_method_4_code (1 : Nat) (Option.some Jvm.ClassFile.FieldType.int) ∈ lw_g := List.mem_filter.mpr ⟨mj_1 (List.mem_of_getElem? (i := 201) rfl), rfl⟩
theorem tw_202 : Jvm.Cond.methodLink "LetHoles" (65 : Nat) ({ cls := "LetHoles$Deeds", name := "readAll", desc := "([II)I" } : Jvm.MethodName) ∈ lw_g := List.mem_filter.mpr ⟨mj_1 (List.mem_of_getElem? (i := 202) rfl), rfl⟩
theorem tw_203 : Jvm.Cond.instanceMethod ({ cls := "LetHoles$Deeds", name := "readAll", desc := "([II)I" } : Jvm.MethodName) ∈ lw_g := List.mem_filter.mpr ⟨mj_1 (List.mem_of_getElem? (i := 203) rfl), rfl⟩
theorem tw_204 : Jvm.Cond.selects "LetHoles$Deeds" ({ cls := "LetHoles$Deeds", name := "readAll", desc := "([II)I" } : Jvm.MethodName) ({ cls := "LetHoles$Deeds", name := "readAll", desc := "([II)I" } : Jvm.MethodName) ∈ lw_g := List.mem_filter.mpr ⟨mj_1 (List.mem_of_getElem? (i := 204) rfl), rfl⟩
theorem tw_205 : Jvm.Cond.code ({ cls := "LetHoles$Deeds", name := "readAll", desc := "([II)I" } : Jvm.MethodName) prog_3_method_9_code (4 : Nat) (Option.some Jvm.ClassFile.FieldType.int) ∈ lw_g := List.mem_filter.mpr ⟨mj_1 (List.mem_of_getElem? (i := 205) rfl), rfl⟩
theorem tw_206 : Jvm.Cond.methodLink "LetHoles$Deeds" (80 : Nat) ({ cls := "LetHoles$Deeds", name := "forget", desc := "()V" } : Jvm.MethodName) ∈ lw_g := List.mem_filter.mpr ⟨mj_1 (List.mem_of_getElem? (i := 206) rfl), rfl⟩
theorem tw_207 : Jvm.Cond.privateMethod ({ cls := "LetHoles$Deeds", name := "forget", desc := "()V" } : Jvm.MethodName) ∈ lw_tbl := mj_1 (List.mem_of_getElem? (i := 207) rfl)
theorem tw_208 : Jvm.Cond.instanceMethod ({ cls := "LetHoles$Deeds", name := "forget", desc := "()V" } : Jvm.MethodName) ∈ lw_g := List.mem_filter.mpr ⟨mj_1 (List.mem_of_getElem? (i := 208) rfl), rfl⟩
theorem tw_209 : Jvm.Cond.code ({ cls := "LetHoles$Deeds", name := "forget", desc := "()V" } : Jvm.MethodName) prog_3_method_8_code (1 : Nat) (Option.none : Option Jvm.ClassFile.FieldType) ∈ lw_g := List.mem_filter.mpr ⟨mj_1 (List.mem_of_getElem? (i := 209) rfl), rfl⟩
theorem tw_210 : Jvm.Cond.methodLink "LetHoles$Deeds" (87 : Nat) ({ cls := "LetHoles$Deeds", name := "reads", desc := "(I)Z" } : Jvm.MethodName) ∈ lw_g := List.mem_filter.mpr ⟨mj_1 (List.mem_of_getElem? (i := 210) rfl), rfl⟩
theorem tw_211 : Jvm.Cond.privateMethod ({ cls := "LetHoles$Deeds", name := "reads", desc := "(I)Z" } : Jvm.MethodName) ∈ lw_tbl := mj_1 (List.mem_of_getElem? (i := 211) rfl)
theorem tw_212 : Jvm.Cond.instanceMethod ({ cls := "LetHoles$Deeds", name := "reads", desc := "(I)Z" } : Jvm.MethodName) ∈ lw_g := List.mem_filter.mpr ⟨mj_1 (List.mem_of_getElem? (i := 212) rfl), rfl⟩
theorem tw_213 : Jvm.Cond.code ({ cls := "LetHoles$Deeds", name := "reads", desc := "(I)Z" } : Jvm.MethodName) prog_3_method_10_code (2 : Nat) (Option.some Jvm.ClassFile.FieldType.boolean) ∈ lw_g := List.mem_filter.mpr ⟨mj_1 (List.mem_of_getElem? (i := 213) rfl), rfl⟩
theorem tw_214 : Jvm.Cond.methodLink "LetHoles$Deeds" (90 : Nat) ({ cls := "LetHoles$Deeds", name := "opensPart", desc := "(I)Z" } : Jvm.MethodName) ∈ lw_g := List.mem_filter.mpr ⟨mj_1 (List.mem_of_getElem? (i := 214) rfl), rfl⟩
theorem tw_215 : Jvm.Cond.privateMethod ({ cls := "LetHoles$Deeds", name := "opensPart", desc := "(I)Z" } : Jvm.MethodName) ∈ lw_tbl := mj_1 (List.mem_of_getElem? (i := 215) rfl)
theorem tw_216 : Jvm.Cond.instanceMethod ({ cls := "LetHoles$Deeds", name := "opensPart", desc := "(I)Z" } : Jvm.MethodName) ∈ lw_g := List.mem_filter.mpr ⟨mj_1 (List.mem_of_getElem? (i := 216) rfl), rfl⟩
theorem tw_217 : Jvm.Cond.code ({ cls := "LetHoles$Deeds", name := "opensPart", desc := "(I)Z" } : Jvm.MethodName) prog_3_method_11_code (2 : Nat) (Option.some Jvm.ClassFile.FieldType.boolean) ∈ lw_g := List.mem_filter.mpr ⟨mj_1 (List.mem_of_getElem? (i := 217) rfl), rfl⟩
theorem tw_218 : Jvm.Cond.methodLink "LetHoles$Deeds" (93 : Nat) ({ cls := "LetHoles$Deeds", name := "readsOwner", desc := "(I)Z" } : Jvm.MethodName) ∈ lw_g := List.mem_filter.mpr ⟨mj_1 (List.mem_of_getElem? (i := 218) rfl), rfl⟩
theorem tw_219 : Jvm.Cond.privateMethod ({ cls := "LetHoles$Deeds", name := "readsOwner", desc := "(I)Z" } : Jvm.MethodName) ∈ lw_tbl := mj_1 (List.mem_of_getElem? (i := 219) rfl)
theorem tw_220 : Jvm.Cond.instanceMethod ({ cls := "LetHoles$Deeds", name := "readsOwner", desc := "(I)Z" } : Jvm.MethodName) ∈ lw_g := List.mem_filter.mpr ⟨mj_1 (List.mem_of_getElem? (i := 220) rfl), rfl⟩
theorem tw_221 : Jvm.Cond.code ({ cls := "LetHoles$Deeds", name := "readsOwner", desc := "(I)Z" } : Jvm.MethodName) prog_3_method_12_code (2 : Nat) (Option.some Jvm.ClassFile.FieldType.boolean) ∈ lw_g := List.mem_filter.mpr ⟨mj_1 (List.mem_of_getElem? (i := 221) rfl), rfl⟩
theorem tw_222 : Jvm.Cond.methodLink "LetHoles$Deeds" (102 : Nat) ({ cls := "LetHoles$Rows", name := "put", desc := "([III)V" } : Jvm.MethodName) ∈ lw_g := List.mem_filter.mpr ⟨mj_1 (List.mem_of_getElem? (i := 222) rfl), rfl⟩
theorem tw_223 : Jvm.Cond.static ({ cls := "LetHoles$Rows", name := "put", desc := "([III)V" } : Jvm.MethodName) ∈ lw_g := List.mem_filter.mpr ⟨mj_1 (List.mem_of_getElem? (i := 223) rfl), rfl⟩
theorem tw_224 : Jvm.Cond.code ({ cls := "LetHoles$Rows", name := "put", desc := "([III)V" } : Jvm.MethodName) prog_5_method_3_code (3 : Nat) (Option.none : Option Jvm.ClassFile.FieldType) ∈ lw_g := List.mem_filter.mpr ⟨mj_1 (List.mem_of_getElem? (i := 224) rfl), rfl⟩
theorem tw_225 : Jvm.Cond.methodLink "LetHoles$Deeds" (96 : Nat) ({ cls := "LetHoles$Deeds", name := "readsRow", desc := "(I)Z" } : Jvm.MethodName) ∈ lw_g := List.mem_filter.mpr ⟨mj_1 (List.mem_of_getElem? (i := 225) rfl), rfl⟩
theorem tw_226 : Jvm.Cond.privateMethod ({ cls := "LetHoles$Deeds", name := "readsRow", desc := "(I)Z" } : Jvm.MethodName) ∈ lw_tbl := mj_1 (List.mem_of_getElem? (i := 226) rfl)
theorem tw_227 : Jvm.Cond.instanceMethod ({ cls := "LetHoles$Deeds", name := "readsRow", desc := "(I)Z" } : Jvm.MethodName) ∈ lw_g := List.mem_filter.mpr ⟨mj_1 (List.mem_of_getElem? (i := 227) rfl), rfl⟩
theorem tw_228 : Jvm.Cond.code ({ cls := "LetHoles$Deeds", name := "readsRow", desc := "(I)Z" } : Jvm.MethodName) prog_3_method_13_code (2 : Nat) (Option.some Jvm.ClassFile.FieldType.boolean) ∈ lw_g := List.mem_filter.mpr ⟨mj_1 (List.mem_of_getElem? (i := 228) rfl), rfl⟩
theorem tw_229 : Jvm.Cond.methodLink "LetHoles$Deeds" (61 : Nat) ({ cls := "LetHoles$Deeds", name := "hasOwner", desc := "(I)Z" } : Jvm.MethodName) ∈ lw_g := List.mem_filter.mpr ⟨mj_1 (List.mem_of_getElem? (i := 229) rfl), rfl⟩
theorem tw_230 : Jvm.Cond.instanceMethod ({ cls := "LetHoles$Deeds", name := "hasOwner", desc := "(I)Z" } : Jvm.MethodName) ∈ lw_g := List.mem_filter.mpr ⟨mj_1 (List.mem_of_getElem? (i := 230) rfl), rfl⟩
theorem tw_231 : Jvm.Cond.selects "LetHoles$Deeds" ({ cls := "LetHoles$Deeds", name := "hasOwner", desc := "(I)Z" } : Jvm.MethodName) ({ cls := "LetHoles$Deeds", name := "hasOwner", desc := "(I)Z" } : Jvm.MethodName) ∈ lw_g := List.mem_filter.mpr ⟨mj_1 (List.mem_of_getElem? (i := 231) rfl), rfl⟩
theorem tw_232 : Jvm.Cond.code ({ cls := "LetHoles$Deeds", name := "hasOwner", desc := "(I)Z" } : Jvm.MethodName) prog_3_method_2_code (2 : Nat) (Option.some Jvm.ClassFile.FieldType.boolean) ∈ lw_g := List.mem_filter.mpr ⟨mj_1 (List.mem_of_getElem? (i := 232) rfl), rfl⟩
theorem tw_233 : Jvm.Cond.methodLink "LetHoles$Deeds" (74 : Nat) ({ cls := "LetHoles$Rows", name := "get", desc := "([II)I" } : Jvm.MethodName) ∈ lw_g := List.mem_filter.mpr ⟨mj_1 (List.mem_of_getElem? (i := 233) rfl), rfl⟩
theorem tw_234 : Jvm.Cond.static ({ cls := "LetHoles$Rows", name := "get", desc := "([II)I" } : Jvm.MethodName) ∈ lw_g := List.mem_filter.mpr ⟨mj_1 (List.mem_of_getElem? (i := 234) rfl), rfl⟩
theorem tw_235 : Jvm.Cond.code ({ cls := "LetHoles$Rows", name := "get", desc := "([II)I" } : Jvm.MethodName) prog_5_method_2_code (2 : Nat) (Option.some Jvm.ClassFile.FieldType.int) ∈ lw_g := List.mem_filter.mpr ⟨mj_1 (List.mem_of_getElem? (i := 235) rfl), rfl⟩
theorem tw_236 : Jvm.Cond.methodLink "LetHoles$Deeds" (65 : Nat) ({ cls := "LetHoles$Grid", name := "rowCells", desc := "(I)I" } : Jvm.MethodName) ∈ lw_g := List.mem_filter.mpr ⟨mj_1 (List.mem_of_getElem? (i := 236) rfl), rfl⟩
theorem tw_237 : Jvm.Cond.static ({ cls := "LetHoles$Grid", name := "rowCells", desc := "(I)I" } : Jvm.MethodName) ∈ lw_g := List.mem_filter.mpr ⟨mj_1 (List.mem_of_getElem? (i := 237) rfl), rfl⟩
theorem tw_238 : Jvm.Cond.code ({ cls := "LetHoles$Grid", name := "rowCells", desc := "(I)I" } : Jvm.MethodName) prog_4_method_4_code (1 : Nat) (Option.some Jvm.ClassFile.FieldType.int) ∈ lw_g := List.mem_filter.mpr ⟨mj_1 (List.mem_of_getElem? (i := 238) rfl), rfl⟩
theorem tw_239 : Jvm.Cond.methodLink "LetHoles$Deeds" (99 : Nat) ({ cls := "LetHoles$Deeds", name := "readsHole", desc := "(I)Z" } : Jvm.MethodName) ∈ lw_g := List.mem_filter.mpr ⟨mj_1 (List.mem_of_getElem? (i := 239) rfl), rfl⟩
theorem tw_240 : Jvm.Cond.privateMethod ({ cls := "LetHoles$Deeds", name := "readsHole", desc := "(I)Z" } : Jvm.MethodName) ∈ lw_tbl := mj_2 (List.mem_of_getElem? (i := 0) rfl)
theorem tw_241 : Jvm.Cond.instanceMethod ({ cls := "LetHoles$Deeds", name := "readsHole", desc := "(I)Z" } : Jvm.MethodName) ∈ lw_g := List.mem_filter.mpr ⟨mj_2 (List.mem_of_getElem? (i := 1) rfl), rfl⟩
theorem tw_242 : Jvm.Cond.code ({ cls := "LetHoles$Deeds", name := "readsHole", desc := "(I)Z" } : Jvm.MethodName) prog_3_method_14_code (3 : Nat) (Option.some Jvm.ClassFile.FieldType.boolean) ∈ lw_g := List.mem_filter.mpr ⟨mj_2 (List.mem_of_getElem? (i := 2) rfl), rfl⟩
theorem tw_243 : Jvm.Cond.methodLink "LetHoles$Deeds" (106 : Nat) ({ cls := "LetHoles$Grid", name := "hasCell", desc := "(I)Z" } : Jvm.MethodName) ∈ lw_g := List.mem_filter.mpr ⟨mj_2 (List.mem_of_getElem? (i := 3) rfl), rfl⟩
theorem tw_244 : Jvm.Cond.static ({ cls := "LetHoles$Grid", name := "hasCell", desc := "(I)Z" } : Jvm.MethodName) ∈ lw_g := List.mem_filter.mpr ⟨mj_2 (List.mem_of_getElem? (i := 4) rfl), rfl⟩
theorem tw_245 : Jvm.Cond.code ({ cls := "LetHoles$Grid", name := "hasCell", desc := "(I)Z" } : Jvm.MethodName) prog_4_method_2_code (1 : Nat) (Option.some Jvm.ClassFile.FieldType.boolean) ∈ lw_g := List.mem_filter.mpr ⟨mj_2 (List.mem_of_getElem? (i := 5) rfl), rfl⟩
theorem tw_246 : Jvm.Cond.methodLink "LetHoles$Deeds" (109 : Nat) ({ cls := "LetHoles$Grid", name := "bitOf", desc := "(I)I" } : Jvm.MethodName) ∈ lw_g := List.mem_filter.mpr ⟨mj_2 (List.mem_of_getElem? (i := 6) rfl), rfl⟩
theorem tw_247 : Jvm.Cond.static ({ cls := "LetHoles$Grid", name := "bitOf", desc := "(I)I" } : Jvm.MethodName) ∈ lw_g := List.mem_filter.mpr ⟨mj_2 (List.mem_of_getElem? (i := 7) rfl), rfl⟩
theorem tw_248 : Jvm.Cond.code ({ cls := "LetHoles$Grid", name := "bitOf", desc := "(I)I" } : Jvm.MethodName) prog_4_method_3_code (1 : Nat) (Option.some Jvm.ClassFile.FieldType.int) ∈ lw_g := List.mem_filter.mpr ⟨mj_2 (List.mem_of_getElem? (i := 8) rfl), rfl⟩
theorem tw_249 : Jvm.Cond.methodLink "LetHoles$Grid" (11 : Nat) ({ cls := "LetHoles$Grid", name := "hasCell", desc := "(I)Z" } : Jvm.MethodName) ∈ lw_g := List.mem_filter.mpr ⟨mj_2 (List.mem_of_getElem? (i := 9) rfl), rfl⟩
theorem tw_250 : Jvm.Cond.methodLink "LetHoles$Deeds" (83 : Nat) ({ cls := "LetHoles$Deeds", name := "addHole", desc := "(III)V" } : Jvm.MethodName) ∈ lw_g := List.mem_filter.mpr ⟨mj_2 (List.mem_of_getElem? (i := 10) rfl), rfl⟩
theorem tw_251 : Jvm.Cond.privateMethod ({ cls := "LetHoles$Deeds", name := "addHole", desc := "(III)V" } : Jvm.MethodName) ∈ lw_tbl := mj_2 (List.mem_of_getElem? (i := 11) rfl)
theorem tw_252 : Jvm.Cond.instanceMethod ({ cls := "LetHoles$Deeds", name := "addHole", desc := "(III)V" } : Jvm.MethodName) ∈ lw_g := List.mem_filter.mpr ⟨mj_2 (List.mem_of_getElem? (i := 12) rfl), rfl⟩
theorem tw_253 : Jvm.Cond.code ({ cls := "LetHoles$Deeds", name := "addHole", desc := "(III)V" } : Jvm.MethodName) prog_3_method_15_code (4 : Nat) (Option.none : Option Jvm.ClassFile.FieldType) ∈ lw_g := List.mem_filter.mpr ⟨mj_2 (List.mem_of_getElem? (i := 13) rfl), rfl⟩
theorem tw_254 : Jvm.Cond.methodLink "LetHolesLaw" (27 : Nat) ({ cls := "LetHoles", name := "dairy", desc := "()I" } : Jvm.MethodName) ∈ lw_g := List.mem_filter.mpr ⟨mj_2 (List.mem_of_getElem? (i := 14) rfl), rfl⟩
theorem tw_255 : Jvm.Cond.instanceMethod ({ cls := "LetHoles", name := "dairy", desc := "()I" } : Jvm.MethodName) ∈ lw_g := List.mem_filter.mpr ⟨mj_2 (List.mem_of_getElem? (i := 15) rfl), rfl⟩
theorem tw_256 : Jvm.Cond.selects "LetHoles" ({ cls := "LetHoles", name := "dairy", desc := "()I" } : Jvm.MethodName) ({ cls := "LetHoles", name := "dairy", desc := "()I" } : Jvm.MethodName) ∈ lw_g := List.mem_filter.mpr ⟨mj_2 (List.mem_of_getElem? (i := 16) rfl), rfl⟩
theorem tw_257 : Jvm.Cond.code ({ cls := "LetHoles", name := "dairy", desc := "()I" } : Jvm.MethodName) prog_1_method_5_code (2 : Nat) (Option.some Jvm.ClassFile.FieldType.int) ∈ lw_g := List.mem_filter.mpr ⟨mj_2 (List.mem_of_getElem? (i := 17) rfl), rfl⟩
theorem tw_258 : Jvm.Cond.methodLink "LetHoles" (69 : Nat) ({ cls := "LetHoles$Wheel", name := "beginWith", desc := "(LLetHoles$Deeds;)V" } : Jvm.MethodName) ∈ lw_g := List.mem_filter.mpr ⟨mj_2 (List.mem_of_getElem? (i := 18) rfl), rfl⟩
theorem tw_259 : Jvm.Cond.instanceMethod ({ cls := "LetHoles$Wheel", name := "beginWith", desc := "(LLetHoles$Deeds;)V" } : Jvm.MethodName) ∈ lw_g := List.mem_filter.mpr ⟨mj_2 (List.mem_of_getElem? (i := 19) rfl), rfl⟩
theorem tw_260 : Jvm.Cond.selects "LetHoles$Wheel" ({ cls := "LetHoles$Wheel", name := "beginWith", desc := "(LLetHoles$Deeds;)V" } : Jvm.MethodName) ({ cls := "LetHoles$Wheel", name := "beginWith", desc := "(LLetHoles$Deeds;)V" } : Jvm.MethodName) ∈ lw_g := List.mem_filter.mpr ⟨mj_2 (List.mem_of_getElem? (i := 20) rfl), rfl⟩
theorem tw_261 : Jvm.Cond.code ({ cls := "LetHoles$Wheel", name := "beginWith", desc := "(LLetHoles$Deeds;)V" } : Jvm.MethodName) prog_7_method_3_code (4 : Nat) (Option.none : Option Jvm.ClassFile.FieldType) ∈ lw_g := List.mem_filter.mpr ⟨mj_2 (List.mem_of_getElem? (i := 21) rfl), rfl⟩
theorem tw_262 : Jvm.Cond.methodLink "LetHoles$Wheel" (43 : Nat) ({ cls := "LetHoles$Deeds", name := "hasHole", desc := "(I)Z" } : Jvm.MethodName) ∈ lw_g := List.mem_filter.mpr ⟨mj_2 (List.mem_of_getElem? (i := 22) rfl), rfl⟩
theorem tw_263 : Jvm.Cond.instanceMethod ({ cls := "LetHoles$Deeds", name := "hasHole", desc := "(I)Z" } : Jvm.MethodName) ∈ lw_g := List.mem_filter.mpr ⟨mj_2 (List.mem_of_getElem? (i := 23) rfl), rfl⟩
theorem tw_264 : Jvm.Cond.selects "LetHoles$Deeds" ({ cls := "LetHoles$Deeds", name := "hasHole", desc := "(I)Z" } : Jvm.MethodName) ({ cls := "LetHoles$Deeds", name := "hasHole", desc := "(I)Z" } : Jvm.MethodName) ∈ lw_g := List.mem_filter.mpr ⟨mj_2 (List.mem_of_getElem? (i := 24) rfl), rfl⟩
theorem tw_265 : Jvm.Cond.code ({ cls := "LetHoles$Deeds", name := "hasHole", desc := "(I)Z" } : Jvm.MethodName) prog_3_method_3_code (2 : Nat) (Option.some Jvm.ClassFile.FieldType.boolean) ∈ lw_g := List.mem_filter.mpr ⟨mj_2 (List.mem_of_getElem? (i := 25) rfl), rfl⟩
theorem tw_266 : Jvm.Cond.methodLink "LetHoles$Wheel" (52 : Nat) ({ cls := "LetHoles$Grid", name := "bitOf", desc := "(I)I" } : Jvm.MethodName) ∈ lw_g := List.mem_filter.mpr ⟨mj_2 (List.mem_of_getElem? (i := 26) rfl), rfl⟩
theorem tw_267 : Jvm.Cond.methodLink "LetHoles" (73 : Nat) ({ cls := "LetHoles$Acts", name := "forgetAll", desc := "()V" } : Jvm.MethodName) ∈ lw_g := List.mem_filter.mpr ⟨mj_2 (List.mem_of_getElem? (i := 27) rfl), rfl⟩
theorem tw_268 : Jvm.Cond.instanceMethod ({ cls := "LetHoles$Acts", name := "forgetAll", desc := "()V" } : Jvm.MethodName) ∈ lw_g := List.mem_filter.mpr ⟨mj_2 (List.mem_of_getElem? (i := 28) rfl), rfl⟩
theorem tw_269 : Jvm.Cond.selects "LetHoles$Acts" ({ cls := "LetHoles$Acts", name := "forgetAll", desc := "()V" } : Jvm.MethodName) ({ cls := "LetHoles$Acts", name := "forgetAll", desc := "()V" } : Jvm.MethodName) ∈ lw_g := List.mem_filter.mpr ⟨mj_2 (List.mem_of_getElem? (i := 29) rfl), rfl⟩
theorem tw_270 : Jvm.Cond.code ({ cls := "LetHoles$Acts", name := "forgetAll", desc := "()V" } : Jvm.MethodName) prog_2_method_2_code (1 : Nat) (Option.none : Option Jvm.ClassFile.FieldType) ∈ lw_g := List.mem_filter.mpr ⟨mj_2 (List.mem_of_getElem? (i := 30) rfl), rfl⟩
theorem tw_271 : Jvm.Cond.methodLink "LetHolesLaw" (31 : Nat) ({ cls := "LetHoles", name := "owner", desc := "(II)I" } : Jvm.MethodName) ∈ lw_g := List.mem_filter.mpr ⟨mj_2 (List.mem_of_getElem? (i := 31) rfl), rfl⟩
theorem tw_272 : Jvm.Cond.instanceMethod ({ cls := "LetHoles", name := "owner", desc := "(II)I" } : Jvm.MethodName) ∈ lw_g := List.mem_filter.mpr ⟨mj_2 (List.mem_of_getElem? (i := 32) rfl), rfl⟩
theorem tw_273 : Jvm.Cond.selects "LetHoles" ({ cls := "LetHoles", name := "owner", desc := "(II)I" } : Jvm.MethodName) ({ cls := "LetHoles", name := "owner", desc := "(II)I" } : Jvm.MethodName) ∈ lw_g := List.mem_filter.mpr ⟨mj_2 (List.mem_of_getElem? (i := 33) rfl), rfl⟩
theorem tw_274 : Jvm.Cond.code ({ cls := "LetHoles", name := "owner", desc := "(II)I" } : Jvm.MethodName) prog_1_method_6_code (3 : Nat) (Option.some Jvm.ClassFile.FieldType.int) ∈ lw_g := List.mem_filter.mpr ⟨mj_2 (List.mem_of_getElem? (i := 34) rfl), rfl⟩
theorem tw_275 : Jvm.Cond.methodLink "LetHoles" (82 : Nat) ({ cls := "LetHoles$Deeds", name := "hasOwner", desc := "(I)Z" } : Jvm.MethodName) ∈ lw_g := List.mem_filter.mpr ⟨mj_2 (List.mem_of_getElem? (i := 35) rfl), rfl⟩
theorem tw_276 : Jvm.Cond.methodLink "LetHoles" (89 : Nat) ({ cls := "LetHoles$Rows", name := "get", desc := "([II)I" } : Jvm.MethodName) ∈ lw_g := List.mem_filter.mpr ⟨mj_2 (List.mem_of_getElem? (i := 36) rfl), rfl⟩
theorem tw_277 : Jvm.Cond.methodLink "LetHoles" (97 : Nat) ({ cls := "LetHoles$Deeds", name := "rowsOf", desc := "(I)I" } : Jvm.MethodName) ∈ lw_g := List.mem_filter.mpr ⟨mj_2 (List.mem_of_getElem? (i := 37) rfl), rfl⟩
theorem tw_278 : Jvm.Cond.instanceMethod ({ cls := "LetHoles$Deeds", name := "rowsOf", desc := "(I)I" } : Jvm.MethodName) ∈ lw_g := List.mem_filter.mpr ⟨mj_2 (List.mem_of_getElem? (i := 38) rfl), rfl⟩
theorem tw_279 : Jvm.Cond.selects "LetHoles$Deeds" ({ cls := "LetHoles$Deeds", name := "rowsOf", desc := "(I)I" } : Jvm.MethodName) ({ cls := "LetHoles$Deeds", name := "rowsOf", desc := "(I)I" } : Jvm.MethodName) ∈ lw_g := List.mem_filter.mpr ⟨mj_2 (List.mem_of_getElem? (i := 39) rfl), rfl⟩
theorem tw_280 : Jvm.Cond.code ({ cls := "LetHoles$Deeds", name := "rowsOf", desc := "(I)I" } : Jvm.MethodName) prog_3_method_4_code (4 : Nat) (Option.some Jvm.ClassFile.FieldType.int) ∈ lw_g := List.mem_filter.mpr ⟨mj_2 (List.mem_of_getElem? (i := 40) rfl), rfl⟩
theorem tw_281 : Jvm.Cond.methodLink "LetHoles" (101 : Nat) ({ cls := "LetHoles$Wheel", name := "holesOf", desc := "(I)I" } : Jvm.MethodName) ∈ lw_g := List.mem_filter.mpr ⟨mj_2 (List.mem_of_getElem? (i := 41) rfl), rfl⟩
theorem tw_282 : Jvm.Cond.instanceMethod ({ cls := "LetHoles$Wheel", name := "holesOf", desc := "(I)I" } : Jvm.MethodName) ∈ lw_g := List.mem_filter.mpr ⟨mj_2 (List.mem_of_getElem? (i := 42) rfl), rfl⟩
theorem tw_283 : Jvm.Cond.selects "LetHoles$Wheel" ({ cls := "LetHoles$Wheel", name := "holesOf", desc := "(I)I" } : Jvm.MethodName) ({ cls := "LetHoles$Wheel", name := "holesOf", desc := "(I)I" } : Jvm.MethodName) ∈ lw_g := List.mem_filter.mpr ⟨mj_2 (List.mem_of_getElem? (i := 43) rfl), rfl⟩
theorem tw_284 : Jvm.Cond.code ({ cls := "LetHoles$Wheel", name := "holesOf", desc := "(I)I" } : Jvm.MethodName) prog_7_method_9_code (4 : Nat) (Option.some Jvm.ClassFile.FieldType.int) ∈ lw_g := List.mem_filter.mpr ⟨mj_2 (List.mem_of_getElem? (i := 44) rfl), rfl⟩
theorem tw_285 : Jvm.Cond.methodLink "LetHoles" (104 : Nat) ({ cls := "LetHoles$Wheel", name := "ownedBy", desc := "(LLetHoles$Deeds;I)I" } : Jvm.MethodName) ∈ lw_g := List.mem_filter.mpr ⟨mj_2 (List.mem_of_getElem? (i := 45) rfl), rfl⟩
theorem tw_286 : Jvm.Cond.instanceMethod ({ cls := "LetHoles$Wheel", name := "ownedBy", desc := "(LLetHoles$Deeds;I)I" } : Jvm.MethodName) ∈ lw_g := List.mem_filter.mpr ⟨mj_2 (List.mem_of_getElem? (i := 46) rfl), rfl⟩
theorem tw_287 : Jvm.Cond.selects "LetHoles$Wheel" ({ cls := "LetHoles$Wheel", name := "ownedBy", desc := "(LLetHoles$Deeds;I)I" } : Jvm.MethodName) ({ cls := "LetHoles$Wheel", name := "ownedBy", desc := "(LLetHoles$Deeds;I)I" } : Jvm.MethodName) ∈ lw_g := List.mem_filter.mpr ⟨mj_2 (List.mem_of_getElem? (i := 47) rfl), rfl⟩
theorem tw_288 : Jvm.Cond.code ({ cls := "LetHoles$Wheel", name := "ownedBy", desc := "(LLetHoles$Deeds;I)I" } : Jvm.MethodName) prog_7_method_17_code (6 : Nat) (Option.some Jvm.ClassFile.FieldType.int) ∈ lw_g := List.mem_filter.mpr ⟨mj_2 (List.mem_of_getElem? (i := 48) rfl), rfl⟩
theorem tw_289 : Jvm.Cond.methodLink "LetHoles$Wheel" (83 : Nat) ({ cls := "LetHoles$Deeds", name := "rowCellsOf", desc := "(I)I" } : Jvm.MethodName) ∈ lw_g := List.mem_filter.mpr ⟨mj_2 (List.mem_of_getElem? (i := 49) rfl), rfl⟩
theorem tw_290 : Jvm.Cond.instanceMethod ({ cls := "LetHoles$Deeds", name := "rowCellsOf", desc := "(I)I" } : Jvm.MethodName) ∈ lw_g := List.mem_filter.mpr ⟨mj_2 (List.mem_of_getElem? (i := 50) rfl), rfl⟩
theorem tw_291 : Jvm.Cond.selects "LetHoles$Deeds" ({ cls := "LetHoles$Deeds", name := "rowCellsOf", desc := "(I)I" } : Jvm.MethodName) ({ cls := "LetHoles$Deeds", name := "rowCellsOf", desc := "(I)I" } : Jvm.MethodName) ∈ lw_g := List.mem_filter.mpr ⟨mj_2 (List.mem_of_getElem? (i := 51) rfl), rfl⟩
theorem tw_292 : Jvm.Cond.code ({ cls := "LetHoles$Deeds", name := "rowCellsOf", desc := "(I)I" } : Jvm.MethodName) prog_3_method_5_code (5 : Nat) (Option.some Jvm.ClassFile.FieldType.int) ∈ lw_g := List.mem_filter.mpr ⟨mj_2 (List.mem_of_getElem? (i := 52) rfl), rfl⟩
theorem tw_293 : Jvm.Cond.methodLink "LetHoles$Wheel" (86 : Nat) ({ cls := "LetHoles$Wheel", name := "pasteCells", desc := "()I" } : Jvm.MethodName) ∈ lw_g := List.mem_filter.mpr ⟨mj_2 (List.mem_of_getElem? (i := 53) rfl), rfl⟩
theorem tw_294 : Jvm.Cond.instanceMethod ({ cls := "LetHoles$Wheel", name := "pasteCells", desc := "()I" } : Jvm.MethodName) ∈ lw_g := List.mem_filter.mpr ⟨mj_2 (List.mem_of_getElem? (i := 54) rfl), rfl⟩
theorem tw_295 : Jvm.Cond.selects "LetHoles$Wheel" ({ cls := "LetHoles$Wheel", name := "pasteCells", desc := "()I" } : Jvm.MethodName) ({ cls := "LetHoles$Wheel", name := "pasteCells", desc := "()I" } : Jvm.MethodName) ∈ lw_g := List.mem_filter.mpr ⟨mj_2 (List.mem_of_getElem? (i := 55) rfl), rfl⟩
theorem tw_296 : Jvm.Cond.code ({ cls := "LetHoles$Wheel", name := "pasteCells", desc := "()I" } : Jvm.MethodName) prog_7_method_15_code (1 : Nat) (Option.some Jvm.ClassFile.FieldType.int) ∈ lw_g := List.mem_filter.mpr ⟨mj_2 (List.mem_of_getElem? (i := 56) rfl), rfl⟩
theorem tw_297 : Jvm.Cond.constant "LetHoles$Wheel" (79 : Nat) (1048575 : Int32) ∈ lw_g := List.mem_filter.mpr ⟨mj_2 (List.mem_of_getElem? (i := 57) rfl), rfl⟩
theorem tw_298 : Jvm.Cond.methodLink "LetHoles$Wheel" (75 : Nat) ({ cls := "LetHoles$Wheel", name := "holeCells", desc := "()I" } : Jvm.MethodName) ∈ lw_g := List.mem_filter.mpr ⟨mj_2 (List.mem_of_getElem? (i := 58) rfl), rfl⟩
theorem tw_299 : Jvm.Cond.instanceMethod ({ cls := "LetHoles$Wheel", name := "holeCells", desc := "()I" } : Jvm.MethodName) ∈ lw_g := List.mem_filter.mpr ⟨mj_2 (List.mem_of_getElem? (i := 59) rfl), rfl⟩
theorem tw_300 : Jvm.Cond.selects "LetHoles$Wheel" ({ cls := "LetHoles$Wheel", name := "holeCells", desc := "()I" } : Jvm.MethodName) ({ cls := "LetHoles$Wheel", name := "holeCells", desc := "()I" } : Jvm.MethodName) ∈ lw_g := List.mem_filter.mpr ⟨mj_2 (List.mem_of_getElem? (i := 60) rfl), rfl⟩
theorem tw_301 : Jvm.Cond.code ({ cls := "LetHoles$Wheel", name := "holeCells", desc := "()I" } : Jvm.MethodName) prog_7_method_11_code (3 : Nat) (Option.some Jvm.ClassFile.FieldType.int) ∈ lw_g := List.mem_filter.mpr ⟨mj_2 (List.mem_of_getElem? (i := 61) rfl), rfl⟩
theorem tw_302 : Jvm.Cond.methodLink "LetHoles$Wheel" (89 : Nat) ({ cls := "LetHoles$Deeds", name := "hasOwner", desc := "(I)Z" } : Jvm.MethodName) ∈ lw_g := List.mem_filter.mpr ⟨mj_2 (List.mem_of_getElem? (i := 62) rfl), rfl⟩
theorem tw_303 : Jvm.Cond.methodLink "LetHoles" (108 : Nat) ({ cls := "java/lang/Integer", name := "bitCount", desc := "(I)I" } : Jvm.MethodName) ∈ lw_g := List.mem_filter.mpr ⟨mj_2 (List.mem_of_getElem? (i := 63) rfl), rfl⟩
theorem tw_304 : Jvm.Cond.static ({ cls := "java/lang/Integer", name := "bitCount", desc := "(I)I" } : Jvm.MethodName) ∈ lw_g := List.mem_filter.mpr ⟨mj_2 (List.mem_of_getElem? (i := 64) rfl), rfl⟩
theorem tw_305 : Jvm.Cond.code ({ cls := "java/lang/Integer", name := "bitCount", desc := "(I)I" } : Jvm.MethodName) prog_10_method_49_code (1 : Nat) (Option.some Jvm.ClassFile.FieldType.int) ∈ lw_g := List.mem_filter.mpr ⟨mj_2 (List.mem_of_getElem? (i := 65) rfl), rfl⟩
theorem tw_306 : Jvm.Cond.constant "java/lang/Integer" (265 : Nat) (1431655765 : Int32) ∈ lw_g := List.mem_filter.mpr ⟨mj_2 (List.mem_of_getElem? (i := 66) rfl), rfl⟩
theorem tw_307 : Jvm.Cond.constant "java/lang/Integer" (266 : Nat) (858993459 : Int32) ∈ lw_g := List.mem_filter.mpr ⟨mj_2 (List.mem_of_getElem? (i := 67) rfl), rfl⟩
theorem tw_308 : Jvm.Cond.constant "java/lang/Integer" (267 : Nat) (252645135 : Int32) ∈ lw_g := List.mem_filter.mpr ⟨mj_2 (List.mem_of_getElem? (i := 68) rfl), rfl⟩
theorem tw_309 : Jvm.Cond.methodLink "LetHolesLaw" (36 : Nat) ({ cls := "LetHoles", name := "hole", desc := "(II)I" } : Jvm.MethodName) ∈ lw_g := List.mem_filter.mpr ⟨mj_2 (List.mem_of_getElem? (i := 69) rfl), rfl⟩
theorem tw_310 : Jvm.Cond.instanceMethod ({ cls := "LetHoles", name := "hole", desc := "(II)I" } : Jvm.MethodName) ∈ lw_g := List.mem_filter.mpr ⟨mj_2 (List.mem_of_getElem? (i := 70) rfl), rfl⟩
theorem tw_311 : Jvm.Cond.selects "LetHoles" ({ cls := "LetHoles", name := "hole", desc := "(II)I" } : Jvm.MethodName) ({ cls := "LetHoles", name := "hole", desc := "(II)I" } : Jvm.MethodName) ∈ lw_g := List.mem_filter.mpr ⟨mj_2 (List.mem_of_getElem? (i := 71) rfl), rfl⟩
theorem tw_312 : Jvm.Cond.code ({ cls := "LetHoles", name := "hole", desc := "(II)I" } : Jvm.MethodName) prog_1_method_7_code (3 : Nat) (Option.some Jvm.ClassFile.FieldType.int) ∈ lw_g := List.mem_filter.mpr ⟨mj_2 (List.mem_of_getElem? (i := 72) rfl), rfl⟩
theorem tw_313 : Jvm.Cond.methodLink "LetHoles" (113 : Nat) ({ cls := "LetHoles$Deeds", name := "hasHole", desc := "(I)Z" } : Jvm.MethodName) ∈ lw_g := List.mem_filter.mpr ⟨mj_2 (List.mem_of_getElem? (i := 73) rfl), rfl⟩
theorem tw_314 : Jvm.Cond.methodLink "LetHoles" (125 : Nat) ({ cls := "LetHoles$Wheel", name := "cellsOfHole", desc := "(I)I" } : Jvm.MethodName) ∈ lw_g := List.mem_filter.mpr ⟨mj_2 (List.mem_of_getElem? (i := 74) rfl), rfl⟩
theorem tw_315 : Jvm.Cond.instanceMethod ({ cls := "LetHoles$Wheel", name := "cellsOfHole", desc := "(I)I" } : Jvm.MethodName) ∈ lw_g := List.mem_filter.mpr ⟨mj_2 (List.mem_of_getElem? (i := 75) rfl), rfl⟩
theorem tw_316 : Jvm.Cond.selects "LetHoles$Wheel" ({ cls := "LetHoles$Wheel", name := "cellsOfHole", desc := "(I)I" } : Jvm.MethodName) ({ cls := "LetHoles$Wheel", name := "cellsOfHole", desc := "(I)I" } : Jvm.MethodName) ∈ lw_g := List.mem_filter.mpr ⟨mj_2 (List.mem_of_getElem? (i := 76) rfl), rfl⟩
theorem tw_317 : Jvm.Cond.code ({ cls := "LetHoles$Wheel", name := "cellsOfHole", desc := "(I)I" } : Jvm.MethodName) prog_7_method_5_code (2 : Nat) (Option.some Jvm.ClassFile.FieldType.int) ∈ lw_g := List.mem_filter.mpr ⟨mj_2 (List.mem_of_getElem? (i := 77) rfl), rfl⟩
theorem tw_318 : Jvm.Cond.methodLink "LetHoles" (128 : Nat) ({ cls := "LetHoles$Wheel", name := "sizeOfHole", desc := "(I)I" } : Jvm.MethodName) ∈ lw_g := List.mem_filter.mpr ⟨mj_2 (List.mem_of_getElem? (i := 78) rfl), rfl⟩
theorem tw_319 : Jvm.Cond.instanceMethod ({ cls := "LetHoles$Wheel", name := "sizeOfHole", desc := "(I)I" } : Jvm.MethodName) ∈ lw_g := List.mem_filter.mpr ⟨mj_2 (List.mem_of_getElem? (i := 79) rfl), rfl⟩
theorem tw_320 : Jvm.Cond.selects "LetHoles$Wheel" ({ cls := "LetHoles$Wheel", name := "sizeOfHole", desc := "(I)I" } : Jvm.MethodName) ({ cls := "LetHoles$Wheel", name := "sizeOfHole", desc := "(I)I" } : Jvm.MethodName) ∈ lw_g := List.mem_filter.mpr ⟨mj_2 (List.mem_of_getElem? (i := 80) rfl), rfl⟩
theorem tw_321 : Jvm.Cond.code ({ cls := "LetHoles$Wheel", name := "sizeOfHole", desc := "(I)I" } : Jvm.MethodName) prog_7_method_6_code (2 : Nat) (Option.some Jvm.ClassFile.FieldType.int) ∈ lw_g := List.mem_filter.mpr ⟨mj_2 (List.mem_of_getElem? (i := 81) rfl), rfl⟩
theorem tw_322 : Jvm.Cond.methodLink "LetHoles$Wheel" (61 : Nat) ({ cls := "LetHoles$Wheel", name := "cellsOfHole", desc := "(I)I" } : Jvm.MethodName) ∈ lw_g := List.mem_filter.mpr ⟨mj_2 (List.mem_of_getElem? (i := 82) rfl), rfl⟩
theorem tw_323 : Jvm.Cond.methodLink "LetHoles$Wheel" (64 : Nat) ({ cls := "java/lang/Integer", name := "bitCount", desc := "(I)I" } : Jvm.MethodName) ∈ lw_g := List.mem_filter.mpr ⟨mj_2 (List.mem_of_getElem? (i := 83) rfl), rfl⟩
theorem tw_324 : Jvm.Cond.methodLink "LetHolesLaw" (40 : Nat) ({ cls := "LetHoles", name := "cell", desc := "(II)I" } : Jvm.MethodName) ∈ lw_g := List.mem_filter.mpr ⟨mj_2 (List.mem_of_getElem? (i := 84) rfl), rfl⟩
theorem tw_325 : Jvm.Cond.instanceMethod ({ cls := "LetHoles", name := "cell", desc := "(II)I" } : Jvm.MethodName) ∈ lw_g := List.mem_filter.mpr ⟨mj_2 (List.mem_of_getElem? (i := 85) rfl), rfl⟩
theorem tw_326 : Jvm.Cond.selects "LetHoles" ({ cls := "LetHoles", name := "cell", desc := "(II)I" } : Jvm.MethodName) ({ cls := "LetHoles", name := "cell", desc := "(II)I" } : Jvm.MethodName) ∈ lw_g := List.mem_filter.mpr ⟨mj_2 (List.mem_of_getElem? (i := 86) rfl), rfl⟩
theorem tw_327 : Jvm.Cond.code ({ cls := "LetHoles", name := "cell", desc := "(II)I" } : Jvm.MethodName) prog_1_method_8_code (3 : Nat) (Option.some Jvm.ClassFile.FieldType.int) ∈ lw_g := List.mem_filter.mpr ⟨mj_2 (List.mem_of_getElem? (i := 87) rfl), rfl⟩
theorem tw_328 : Jvm.Cond.methodLink "LetHoles" (131 : Nat) ({ cls := "LetHoles$Grid", name := "hasCell", desc := "(I)Z" } : Jvm.MethodName) ∈ lw_g := List.mem_filter.mpr ⟨mj_2 (List.mem_of_getElem? (i := 88) rfl), rfl⟩
theorem tw_329 : Jvm.Cond.methodLink "LetHoles" (136 : Nat) ({ cls := "LetHoles$Wheel", name := "stuffAt", desc := "(I)I" } : Jvm.MethodName) ∈ lw_g := List.mem_filter.mpr ⟨mj_2 (List.mem_of_getElem? (i := 89) rfl), rfl⟩
theorem tw_330 : Jvm.Cond.instanceMethod ({ cls := "LetHoles$Wheel", name := "stuffAt", desc := "(I)I" } : Jvm.MethodName) ∈ lw_g := List.mem_filter.mpr ⟨mj_2 (List.mem_of_getElem? (i := 90) rfl), rfl⟩
theorem tw_331 : Jvm.Cond.selects "LetHoles$Wheel" ({ cls := "LetHoles$Wheel", name := "stuffAt", desc := "(I)I" } : Jvm.MethodName) ({ cls := "LetHoles$Wheel", name := "stuffAt", desc := "(I)I" } : Jvm.MethodName) ∈ lw_g := List.mem_filter.mpr ⟨mj_2 (List.mem_of_getElem? (i := 91) rfl), rfl⟩
theorem tw_332 : Jvm.Cond.code ({ cls := "LetHoles$Wheel", name := "stuffAt", desc := "(I)I" } : Jvm.MethodName) prog_7_method_18_code (3 : Nat) (Option.some Jvm.ClassFile.FieldType.int) ∈ lw_g := List.mem_filter.mpr ⟨mj_2 (List.mem_of_getElem? (i := 92) rfl), rfl⟩
theorem tw_333 : Jvm.Cond.methodLink "LetHoles" (139 : Nat) ({ cls := "LetHoles$Wheel", name := "holeAt", desc := "(I)I" } : Jvm.MethodName) ∈ lw_g := List.mem_filter.mpr ⟨mj_2 (List.mem_of_getElem? (i := 93) rfl), rfl⟩
theorem tw_334 : Jvm.Cond.instanceMethod ({ cls := "LetHoles$Wheel", name := "holeAt", desc := "(I)I" } : Jvm.MethodName) ∈ lw_g := List.mem_filter.mpr ⟨mj_2 (List.mem_of_getElem? (i := 94) rfl), rfl⟩
theorem tw_335 : Jvm.Cond.selects "LetHoles$Wheel" ({ cls := "LetHoles$Wheel", name := "holeAt", desc := "(I)I" } : Jvm.MethodName) ({ cls := "LetHoles$Wheel", name := "holeAt", desc := "(I)I" } : Jvm.MethodName) ∈ lw_g := List.mem_filter.mpr ⟨mj_2 (List.mem_of_getElem? (i := 95) rfl), rfl⟩
theorem tw_336 : Jvm.Cond.code ({ cls := "LetHoles$Wheel", name := "holeAt", desc := "(I)I" } : Jvm.MethodName) prog_7_method_19_code (4 : Nat) (Option.some Jvm.ClassFile.FieldType.int) ∈ lw_g := List.mem_filter.mpr ⟨mj_2 (List.mem_of_getElem? (i := 96) rfl), rfl⟩
theorem tw_337 : Jvm.Cond.methodLink "LetHoles" (142 : Nat) ({ cls := "LetHoles$Wheel", name := "ownerAt", desc := "(LLetHoles$Deeds;I)I" } : Jvm.MethodName) ∈ lw_g := List.mem_filter.mpr ⟨mj_2 (List.mem_of_getElem? (i := 97) rfl), rfl⟩
theorem tw_338 : Jvm.Cond.instanceMethod ({ cls := "LetHoles$Wheel", name := "ownerAt", desc := "(LLetHoles$Deeds;I)I" } : Jvm.MethodName) ∈ lw_g := List.mem_filter.mpr ⟨mj_2 (List.mem_of_getElem? (i := 98) rfl), rfl⟩
theorem tw_339 : Jvm.Cond.selects "LetHoles$Wheel" ({ cls := "LetHoles$Wheel", name := "ownerAt", desc := "(LLetHoles$Deeds;I)I" } : Jvm.MethodName) ({ cls := "LetHoles$Wheel", name := "ownerAt", desc := "(LLetHoles$Deeds;I)I" } : Jvm.MethodName) ∈ lw_g := List.mem_filter.mpr ⟨mj_2 (List.mem_of_getElem? (i := 99) rfl), rfl⟩
theorem tw_340 : Jvm.Cond.code ({ cls := "LetHoles$Wheel", name := "ownerAt", desc := "(LLetHoles$Deeds;I)I" } : Jvm.MethodName) prog_7_method_20_code (5 : Nat) (Option.some Jvm.ClassFile.FieldType.int) ∈ lw_g := List.mem_filter.mpr ⟨mj_2 (List.mem_of_getElem? (i := 100) rfl), rfl⟩
theorem tw_341 : Jvm.Cond.methodLink "LetHoles$Wheel" (92 : Nat) ({ cls := "LetHoles$Wheel", name := "holeAt", desc := "(I)I" } : Jvm.MethodName) ∈ lw_g := List.mem_filter.mpr ⟨mj_2 (List.mem_of_getElem? (i := 101) rfl), rfl⟩
theorem tw_342 : Jvm.Cond.methodLink "LetHoles$Wheel" (95 : Nat) ({ cls := "LetHoles$Rows", name := "get", desc := "([II)I" } : Jvm.MethodName) ∈ lw_g := List.mem_filter.mpr ⟨mj_2 (List.mem_of_getElem? (i := 102) rfl), rfl⟩
theorem tw_343 : Jvm.Cond.methodLink "LetHolesLaw" (44 : Nat) ({ cls := "LetHoles", name := "day", desc := "()I" } : Jvm.MethodName) ∈ lw_g := List.mem_filter.mpr ⟨mj_2 (List.mem_of_getElem? (i := 103) rfl), rfl⟩
theorem tw_344 : Jvm.Cond.instanceMethod ({ cls := "LetHoles", name := "day", desc := "()I" } : Jvm.MethodName) ∈ lw_g := List.mem_filter.mpr ⟨mj_2 (List.mem_of_getElem? (i := 104) rfl), rfl⟩
theorem tw_345 : Jvm.Cond.selects "LetHoles" ({ cls := "LetHoles", name := "day", desc := "()I" } : Jvm.MethodName) ({ cls := "LetHoles", name := "day", desc := "()I" } : Jvm.MethodName) ∈ lw_g := List.mem_filter.mpr ⟨mj_2 (List.mem_of_getElem? (i := 105) rfl), rfl⟩
theorem tw_346 : Jvm.Cond.code ({ cls := "LetHoles", name := "day", desc := "()I" } : Jvm.MethodName) prog_1_method_9_code (1 : Nat) (Option.some Jvm.ClassFile.FieldType.int) ∈ lw_g := List.mem_filter.mpr ⟨mj_2 (List.mem_of_getElem? (i := 106) rfl), rfl⟩
theorem tw_347 : Jvm.Cond.methodLink "LetHoles" (145 : Nat) ({ cls := "LetHoles$Acts", name := "remember", desc := "(LLetHoles$Wheel;)V" } : Jvm.MethodName) ∈ lw_g := List.mem_filter.mpr ⟨mj_2 (List.mem_of_getElem? (i := 107) rfl), rfl⟩
theorem tw_348 : Jvm.Cond.instanceMethod ({ cls := "LetHoles$Acts", name := "remember", desc := "(LLetHoles$Wheel;)V" } : Jvm.MethodName) ∈ lw_g := List.mem_filter.mpr ⟨mj_2 (List.mem_of_getElem? (i := 108) rfl), rfl⟩
theorem tw_349 : Jvm.Cond.selects "LetHoles$Acts" ({ cls := "LetHoles$Acts", name := "remember", desc := "(LLetHoles$Wheel;)V" } : Jvm.MethodName) ({ cls := "LetHoles$Acts", name := "remember", desc := "(LLetHoles$Wheel;)V" } : Jvm.MethodName) ∈ lw_g := List.mem_filter.mpr ⟨mj_2 (List.mem_of_getElem? (i := 109) rfl), rfl⟩
theorem tw_350 : Jvm.Cond.code ({ cls := "LetHoles$Acts", name := "remember", desc := "(LLetHoles$Wheel;)V" } : Jvm.MethodName) prog_2_method_3_code (3 : Nat) (Option.none : Option Jvm.ClassFile.FieldType) ∈ lw_g := List.mem_filter.mpr ⟨mj_2 (List.mem_of_getElem? (i := 110) rfl), rfl⟩
theorem tw_351 : Jvm.Cond.methodLink "LetHoles$Acts" (22 : Nat) ({ cls := "LetHoles$Acts", name := "forgetFirst", desc := "()V" } : Jvm.MethodName) ∈ lw_g := List.mem_filter.mpr ⟨mj_2 (List.mem_of_getElem? (i := 111) rfl), rfl⟩
theorem tw_352 : Jvm.Cond.privateMethod ({ cls := "LetHoles$Acts", name := "forgetFirst", desc := "()V" } : Jvm.MethodName) ∈ lw_tbl := mj_2 (List.mem_of_getElem? (i := 112) rfl)
theorem tw_353 : Jvm.Cond.instanceMethod ({ cls := "LetHoles$Acts", name := "forgetFirst", desc := "()V" } : Jvm.MethodName) ∈ lw_g := List.mem_filter.mpr ⟨mj_2 (List.mem_of_getElem? (i := 113) rfl), rfl⟩
theorem tw_354 : Jvm.Cond.code ({ cls := "LetHoles$Acts", name := "forgetFirst", desc := "()V" } : Jvm.MethodName) prog_2_method_4_code (3 : Nat) (Option.none : Option Jvm.ClassFile.FieldType) ∈ lw_g := List.mem_filter.mpr ⟨mj_2 (List.mem_of_getElem? (i := 114) rfl), rfl⟩
theorem tw_355 : Jvm.Cond.methodLink "LetHoles$Acts" (25 : Nat) ({ cls := "LetHoles$Acts", name := "wheelAt", desc := "(I)LLetHoles$Wheel;" } : Jvm.MethodName) ∈ lw_g := List.mem_filter.mpr ⟨mj_2 (List.mem_of_getElem? (i := 115) rfl), rfl⟩
theorem tw_356 : Jvm.Cond.privateMethod ({ cls := "LetHoles$Acts", name := "wheelAt", desc := "(I)LLetHoles$Wheel;" } : Jvm.MethodName) ∈ lw_tbl := mj_2 (List.mem_of_getElem? (i := 116) rfl)
theorem tw_357 : Jvm.Cond.instanceMethod ({ cls := "LetHoles$Acts", name := "wheelAt", desc := "(I)LLetHoles$Wheel;" } : Jvm.MethodName) ∈ lw_g := List.mem_filter.mpr ⟨mj_2 (List.mem_of_getElem? (i := 117) rfl), rfl⟩
theorem tw_358 : Jvm.Cond.code ({ cls := "LetHoles$Acts", name := "wheelAt", desc := "(I)LLetHoles$Wheel;" } : Jvm.MethodName) prog_2_method_6_code (2 : Nat) (Option.some (Jvm.ClassFile.FieldType.object "LetHoles$Wheel")) ∈ lw_g := List.mem_filter.mpr ⟨mj_2 (List.mem_of_getElem? (i := 118) rfl), rfl⟩
theorem tw_359 : Jvm.Cond.methodLink "LetHoles$Acts" (29 : Nat) ({ cls := "LetHoles$Wheel", name := "copyFrom", desc := "(LLetHoles$Wheel;)V" } : Jvm.MethodName) ∈ lw_g := List.mem_filter.mpr ⟨mj_2 (List.mem_of_getElem? (i := 119) rfl), rfl⟩
theorem tw_360 : Jvm.Cond.instanceMethod ({ cls := "LetHoles$Wheel", name := "copyFrom", desc := "(LLetHoles$Wheel;)V" } : Jvm.MethodName) ∈ lw_g := List.mem_filter.mpr ⟨mj_2 (List.mem_of_getElem? (i := 120) rfl), rfl⟩
theorem tw_361 : Jvm.Cond.selects "LetHoles$Wheel" ({ cls := "LetHoles$Wheel", name := "copyFrom", desc := "(LLetHoles$Wheel;)V" } : Jvm.MethodName) ({ cls := "LetHoles$Wheel", name := "copyFrom", desc := "(LLetHoles$Wheel;)V" } : Jvm.MethodName) ∈ lw_g := List.mem_filter.mpr ⟨mj_2 (List.mem_of_getElem? (i := 121) rfl), rfl⟩
theorem tw_362 : Jvm.Cond.code ({ cls := "LetHoles$Wheel", name := "copyFrom", desc := "(LLetHoles$Wheel;)V" } : Jvm.MethodName) prog_7_method_2_code (2 : Nat) (Option.none : Option Jvm.ClassFile.FieldType) ∈ lw_g := List.mem_filter.mpr ⟨mj_2 (List.mem_of_getElem? (i := 122) rfl), rfl⟩
theorem tw_363 : Jvm.Cond.methodLink "LetHoles$Wheel" (37 : Nat) ({ cls := "java/lang/System", name := "arraycopy", desc := "(Ljava/lang/Object;ILjava/lang/Object;II)V" } : Jvm.MethodName) ∈ lw_g := List.mem_filter.mpr ⟨mj_2 (List.mem_of_getElem? (i := 123) rfl), rfl⟩
theorem tw_364 : Jvm.Cond.static ({ cls := "java/lang/System", name := "arraycopy", desc := "(Ljava/lang/Object;ILjava/lang/Object;II)V" } : Jvm.MethodName) ∈ lw_g := List.mem_filter.mpr ⟨mj_2 (List.mem_of_getElem? (i := 124) rfl), rfl⟩
theorem tw_365 : Jvm.Cond.native ({ cls := "java/lang/System", name := "arraycopy", desc := "(Ljava/lang/Object;ILjava/lang/Object;II)V" } : Jvm.MethodName) ∈ lw_g := List.mem_filter.mpr ⟨mj_2 (List.mem_of_getElem? (i := 125) rfl), rfl⟩
theorem tw_366 : Jvm.Cond.methodLink "LetHoles" (149 : Nat) ({ cls := "LetHoles$Wheel", name := "passDay", desc := "(LLetHoles$Deeds;)I" } : Jvm.MethodName) ∈ lw_g := List.mem_filter.mpr ⟨mj_2 (List.mem_of_getElem? (i := 126) rfl), rfl⟩
theorem tw_367 : Jvm.Cond.instanceMethod ({ cls := "LetHoles$Wheel", name := "passDay", desc := "(LLetHoles$Deeds;)I" } : Jvm.MethodName) ∈ lw_g := List.mem_filter.mpr ⟨mj_2 (List.mem_of_getElem? (i := 127) rfl), rfl⟩
theorem tw_368 : Jvm.Cond.selects "LetHoles$Wheel" ({ cls := "LetHoles$Wheel", name := "passDay", desc := "(LLetHoles$Deeds;)I" } : Jvm.MethodName) ({ cls := "LetHoles$Wheel", name := "passDay", desc := "(LLetHoles$Deeds;)I" } : Jvm.MethodName) ∈ lw_g := List.mem_filter.mpr ⟨mj_2 (List.mem_of_getElem? (i := 128) rfl), rfl⟩
theorem tw_369 : Jvm.Cond.code ({ cls := "LetHoles$Wheel", name := "passDay", desc := "(LLetHoles$Deeds;)I" } : Jvm.MethodName) prog_7_method_22_code (5 : Nat) (Option.some Jvm.ClassFile.FieldType.int) ∈ lw_g := List.mem_filter.mpr ⟨mj_2 (List.mem_of_getElem? (i := 129) rfl), rfl⟩
theorem tw_370 : Jvm.Cond.methodLink "LetHoles$Wheel" (108 : Nat) ({ cls := "LetHoles$Deeds", name := "turnsOf", desc := "(I)I" } : Jvm.MethodName) ∈ lw_g := List.mem_filter.mpr ⟨mj_2 (List.mem_of_getElem? (i := 130) rfl), rfl⟩
theorem tw_371 : Jvm.Cond.instanceMethod ({ cls := "LetHoles$Deeds", name := "turnsOf", desc := "(I)I" } : Jvm.MethodName) ∈ lw_g := List.mem_filter.mpr ⟨mj_2 (List.mem_of_getElem? (i := 131) rfl), rfl⟩
theorem tw_372 : Jvm.Cond.selects "LetHoles$Deeds" ({ cls := "LetHoles$Deeds", name := "turnsOf", desc := "(I)I" } : Jvm.MethodName) ({ cls := "LetHoles$Deeds", name := "turnsOf", desc := "(I)I" } : Jvm.MethodName) ∈ lw_g := List.mem_filter.mpr ⟨mj_2 (List.mem_of_getElem? (i := 132) rfl), rfl⟩
theorem tw_373 : Jvm.Cond.code ({ cls := "LetHoles$Deeds", name := "turnsOf", desc := "(I)I" } : Jvm.MethodName) prog_3_method_6_code (2 : Nat) (Option.some Jvm.ClassFile.FieldType.int) ∈ lw_g := List.mem_filter.mpr ⟨mj_2 (List.mem_of_getElem? (i := 133) rfl), rfl⟩
theorem tw_374 : Jvm.Cond.methodLink "LetHoles$Deeds" (71 : Nat) ({ cls := "LetHoles$Deeds", name := "hasHole", desc := "(I)Z" } : Jvm.MethodName) ∈ lw_g := List.mem_filter.mpr ⟨mj_2 (List.mem_of_getElem? (i := 134) rfl), rfl⟩
theorem tw_375 : Jvm.Cond.methodLink "LetHoles$Wheel" (111 : Nat) ({ cls := "LetHoles$Wheel", name := "takeLeast", desc := "(LLetHoles$Deeds;I)V" } : Jvm.MethodName) ∈ lw_g := List.mem_filter.mpr ⟨mj_2 (List.mem_of_getElem? (i := 135) rfl), rfl⟩
theorem tw_376 : Jvm.Cond.privateMethod ({ cls := "LetHoles$Wheel", name := "takeLeast", desc := "(LLetHoles$Deeds;I)V" } : Jvm.MethodName) ∈ lw_tbl := mj_2 (List.mem_of_getElem? (i := 136) rfl)
theorem tw_377 : Jvm.Cond.instanceMethod ({ cls := "LetHoles$Wheel", name := "takeLeast", desc := "(LLetHoles$Deeds;I)V" } : Jvm.MethodName) ∈ lw_g := List.mem_filter.mpr ⟨mj_2 (List.mem_of_getElem? (i := 137) rfl), rfl⟩
theorem tw_378 : Jvm.Cond.code ({ cls := "LetHoles$Wheel", name := "takeLeast", desc := "(LLetHoles$Deeds;I)V" } : Jvm.MethodName) prog_7_method_23_code (8 : Nat) (Option.none : Option Jvm.ClassFile.FieldType) ∈ lw_g := List.mem_filter.mpr ⟨mj_2 (List.mem_of_getElem? (i := 138) rfl), rfl⟩
theorem tw_379 : Jvm.Cond.methodLink "LetHoles$Wheel" (125 : Nat) ({ cls := "LetHoles$Grid", name := "columnsOf", desc := "(I)I" } : Jvm.MethodName) ∈ lw_g := List.mem_filter.mpr ⟨mj_2 (List.mem_of_getElem? (i := 139) rfl), rfl⟩
theorem tw_380 : Jvm.Cond.static ({ cls := "LetHoles$Grid", name := "columnsOf", desc := "(I)I" } : Jvm.MethodName) ∈ lw_g := List.mem_filter.mpr ⟨mj_2 (List.mem_of_getElem? (i := 140) rfl), rfl⟩
theorem tw_381 : Jvm.Cond.code ({ cls := "LetHoles$Grid", name := "columnsOf", desc := "(I)I" } : Jvm.MethodName) prog_4_method_8_code (4 : Nat) (Option.some Jvm.ClassFile.FieldType.int) ∈ lw_g := List.mem_filter.mpr ⟨mj_2 (List.mem_of_getElem? (i := 141) rfl), rfl⟩
theorem tw_382 : Jvm.Cond.constant "LetHoles$Grid" (15 : Nat) (33825 : Int32) ∈ lw_g := List.mem_filter.mpr ⟨mj_2 (List.mem_of_getElem? (i := 142) rfl), rfl⟩
theorem tw_383 : Jvm.Cond.methodLink "LetHoles$Wheel" (128 : Nat) ({ cls := "LetHoles$Grid", name := "beside", desc := "(I)I" } : Jvm.MethodName) ∈ lw_g := List.mem_filter.mpr ⟨mj_2 (List.mem_of_getElem? (i := 143) rfl), rfl⟩
theorem tw_384 : Jvm.Cond.static ({ cls := "LetHoles$Grid", name := "beside", desc := "(I)I" } : Jvm.MethodName) ∈ lw_g := List.mem_filter.mpr ⟨mj_2 (List.mem_of_getElem? (i := 144) rfl), rfl⟩
theorem tw_385 : Jvm.Cond.code ({ cls := "LetHoles$Grid", name := "beside", desc := "(I)I" } : Jvm.MethodName) prog_4_method_7_code (4 : Nat) (Option.some Jvm.ClassFile.FieldType.int) ∈ lw_g := List.mem_filter.mpr ⟨mj_2 (List.mem_of_getElem? (i := 145) rfl), rfl⟩
theorem tw_386 : Jvm.Cond.constant "LetHoles$Grid" (16 : Nat) (-541201 : Int32) ∈ lw_g := List.mem_filter.mpr ⟨mj_2 (List.mem_of_getElem? (i := 146) rfl), rfl⟩
theorem tw_387 : Jvm.Cond.constant "LetHoles$Grid" (17 : Nat) (-33826 : Int32) ∈ lw_g := List.mem_filter.mpr ⟨mj_2 (List.mem_of_getElem? (i := 147) rfl), rfl⟩
theorem tw_388 : Jvm.Cond.constant "LetHoles$Grid" (18 : Nat) (1048575 : Int32) ∈ lw_g := List.mem_filter.mpr ⟨mj_2 (List.mem_of_getElem? (i := 148) rfl), rfl⟩
theorem tw_389 : Jvm.Cond.methodLink "LetHoles$Wheel" (131 : Nat) ({ cls := "LetHoles$Wheel", name := "softPaste", desc := "(LLetHoles$Deeds;)I" } : Jvm.MethodName) ∈ lw_g := List.mem_filter.mpr ⟨mj_2 (List.mem_of_getElem? (i := 149) rfl), rfl⟩
theorem tw_390 : Jvm.Cond.instanceMethod ({ cls := "LetHoles$Wheel", name := "softPaste", desc := "(LLetHoles$Deeds;)I" } : Jvm.MethodName) ∈ lw_g := List.mem_filter.mpr ⟨mj_2 (List.mem_of_getElem? (i := 150) rfl), rfl⟩
theorem tw_391 : Jvm.Cond.selects "LetHoles$Wheel" ({ cls := "LetHoles$Wheel", name := "softPaste", desc := "(LLetHoles$Deeds;)I" } : Jvm.MethodName) ({ cls := "LetHoles$Wheel", name := "softPaste", desc := "(LLetHoles$Deeds;)I" } : Jvm.MethodName) ∈ lw_g := List.mem_filter.mpr ⟨mj_2 (List.mem_of_getElem? (i := 151) rfl), rfl⟩
theorem tw_392 : Jvm.Cond.code ({ cls := "LetHoles$Wheel", name := "softPaste", desc := "(LLetHoles$Deeds;)I" } : Jvm.MethodName) prog_7_method_16_code (2 : Nat) (Option.some Jvm.ClassFile.FieldType.int) ∈ lw_g := List.mem_filter.mpr ⟨mj_2 (List.mem_of_getElem? (i := 152) rfl), rfl⟩
theorem tw_393 : Jvm.Cond.methodLink "LetHoles$Wheel" (135 : Nat) ({ cls := "LetHoles$Grid", name := "leastOf", desc := "(I)I" } : Jvm.MethodName) ∈ lw_g := List.mem_filter.mpr ⟨mj_2 (List.mem_of_getElem? (i := 153) rfl), rfl⟩
theorem tw_394 : Jvm.Cond.static ({ cls := "LetHoles$Grid", name := "leastOf", desc := "(I)I" } : Jvm.MethodName) ∈ lw_g := List.mem_filter.mpr ⟨mj_2 (List.mem_of_getElem? (i := 154) rfl), rfl⟩
theorem tw_395 : Jvm.Cond.code ({ cls := "LetHoles$Grid", name := "leastOf", desc := "(I)I" } : Jvm.MethodName) prog_4_method_6_code (1 : Nat) (Option.some Jvm.ClassFile.FieldType.int) ∈ lw_g := List.mem_filter.mpr ⟨mj_2 (List.mem_of_getElem? (i := 155) rfl), rfl⟩
theorem tw_396 : Jvm.Cond.methodLink "LetHoles$Wheel" (138 : Nat) ({ cls := "LetHoles$Wheel", name := "pay", desc := "(III)V" } : Jvm.MethodName) ∈ lw_g := List.mem_filter.mpr ⟨mj_2 (List.mem_of_getElem? (i := 156) rfl), rfl⟩
theorem tw_397 : Jvm.Cond.privateMethod ({ cls := "LetHoles$Wheel", name := "pay", desc := "(III)V" } : Jvm.MethodName) ∈ lw_tbl := mj_2 (List.mem_of_getElem? (i := 157) rfl)
theorem tw_398 : Jvm.Cond.instanceMethod ({ cls := "LetHoles$Wheel", name := "pay", desc := "(III)V" } : Jvm.MethodName) ∈ lw_g := List.mem_filter.mpr ⟨mj_2 (List.mem_of_getElem? (i := 158) rfl), rfl⟩
theorem tw_399 : Jvm.Cond.code ({ cls := "LetHoles$Wheel", name := "pay", desc := "(III)V" } : Jvm.MethodName) prog_7_method_21_code (4 : Nat) (Option.none : Option Jvm.ClassFile.FieldType) ∈ lw_g := List.mem_filter.mpr ⟨mj_2 (List.mem_of_getElem? (i := 159) rfl), rfl⟩
theorem tw_400 : Jvm.Cond.methodLink "LetHoles$Wheel" (104 : Nat) ({ cls := "LetHoles$Rows", name := "add", desc := "([III)V" } : Jvm.MethodName) ∈ lw_g := List.mem_filter.mpr ⟨mj_2 (List.mem_of_getElem? (i := 160) rfl), rfl⟩
theorem tw_401 : Jvm.Cond.static ({ cls := "LetHoles$Rows", name := "add", desc := "([III)V" } : Jvm.MethodName) ∈ lw_g := List.mem_filter.mpr ⟨mj_2 (List.mem_of_getElem? (i := 161) rfl), rfl⟩
theorem tw_402 : Jvm.Cond.code ({ cls := "LetHoles$Rows", name := "add", desc := "([III)V" } : Jvm.MethodName) prog_5_method_4_code (3 : Nat) (Option.none : Option Jvm.ClassFile.FieldType) ∈ lw_g := List.mem_filter.mpr ⟨mj_2 (List.mem_of_getElem? (i := 162) rfl), rfl⟩
theorem tw_403 : Jvm.Cond.methodLink "LetHoles$Wheel" (142 : Nat) ({ cls := "LetHoles$Rows", name := "put", desc := "([III)V" } : Jvm.MethodName) ∈ lw_g := List.mem_filter.mpr ⟨mj_2 (List.mem_of_getElem? (i := 163) rfl), rfl⟩
theorem tw_404 : Jvm.Cond.methodLink "LetHoles$Wheel" (115 : Nat) ({ cls := "LetHoles$Wheel", name := "joinFirstPair", desc := "()Z" } : Jvm.MethodName) ∈ lw_g := List.mem_filter.mpr ⟨mj_2 (List.mem_of_getElem? (i := 164) rfl), rfl⟩
theorem tw_405 : Jvm.Cond.privateMethod ({ cls := "LetHoles$Wheel", name := "joinFirstPair", desc := "()Z" } : Jvm.MethodName) ∈ lw_tbl := mj_2 (List.mem_of_getElem? (i := 165) rfl)
theorem tw_406 : Jvm.Cond.instanceMethod ({ cls := "LetHoles$Wheel", name := "joinFirstPair", desc := "()Z" } : Jvm.MethodName) ∈ lw_g := List.mem_filter.mpr ⟨mj_2 (List.mem_of_getElem? (i := 166) rfl), rfl⟩
theorem tw_407 : Jvm.Cond.code ({ cls := "LetHoles$Wheel", name := "joinFirstPair", desc := "()Z" } : Jvm.MethodName) prog_7_method_24_code (4 : Nat) (Option.some Jvm.ClassFile.FieldType.boolean) ∈ lw_g := List.mem_filter.mpr ⟨mj_2 (List.mem_of_getElem? (i := 167) rfl), rfl⟩
theorem tw_408 : Jvm.Cond.methodLink "LetHoles$Wheel" (145 : Nat) ({ cls := "LetHoles$Wheel", name := "joinPair", desc := "(II)V" } : Jvm.MethodName) ∈ lw_g := List.mem_filter.mpr ⟨mj_2 (List.mem_of_getElem? (i := 168) rfl), rfl⟩
theorem tw_409 : Jvm.Cond.privateMethod ({ cls := "LetHoles$Wheel", name := "joinPair", desc := "(II)V" } : Jvm.MethodName) ∈ lw_tbl := mj_2 (List.mem_of_getElem? (i := 169) rfl)
theorem tw_410 : Jvm.Cond.instanceMethod ({ cls := "LetHoles$Wheel", name := "joinPair", desc := "(II)V" } : Jvm.MethodName) ∈ lw_g := List.mem_filter.mpr ⟨mj_2 (List.mem_of_getElem? (i := 170) rfl), rfl⟩
theorem tw_411 : Jvm.Cond.code ({ cls := "LetHoles$Wheel", name := "joinPair", desc := "(II)V" } : Jvm.MethodName) prog_7_method_25_code (6 : Nat) (Option.none : Option Jvm.ClassFile.FieldType) ∈ lw_g := List.mem_filter.mpr ⟨mj_2 (List.mem_of_getElem? (i := 171) rfl), rfl⟩
theorem tw_412 : Jvm.Cond.methodLink "LetHoles$Wheel" (149 : Nat) ({ cls := "LetHoles$Wheel", name := "sizeOfHole", desc := "(I)I" } : Jvm.MethodName) ∈ lw_g := List.mem_filter.mpr ⟨mj_2 (List.mem_of_getElem? (i := 172) rfl), rfl⟩
theorem tw_413 : Jvm.Cond.methodLink "LetHoles$Wheel" (152 : Nat) ({ cls := "LetHoles$Wheel", name := "endOwning", desc := "(I)V" } : Jvm.MethodName) ∈ lw_g := List.mem_filter.mpr ⟨mj_2 (List.mem_of_getElem? (i := 173) rfl), rfl⟩
theorem tw_414 : Jvm.Cond.privateMethod ({ cls := "LetHoles$Wheel", name := "endOwning", desc := "(I)V" } : Jvm.MethodName) ∈ lw_tbl := mj_2 (List.mem_of_getElem? (i := 174) rfl)
theorem tw_415 : Jvm.Cond.instanceMethod ({ cls := "LetHoles$Wheel", name := "endOwning", desc := "(I)V" } : Jvm.MethodName) ∈ lw_g := List.mem_filter.mpr ⟨mj_2 (List.mem_of_getElem? (i := 175) rfl), rfl⟩
theorem tw_416 : Jvm.Cond.code ({ cls := "LetHoles$Wheel", name := "endOwning", desc := "(I)V" } : Jvm.MethodName) prog_7_method_26_code (2 : Nat) (Option.none : Option Jvm.ClassFile.FieldType) ∈ lw_g := List.mem_filter.mpr ⟨mj_2 (List.mem_of_getElem? (i := 176) rfl), rfl⟩
theorem tw_417 : Jvm.Cond.methodLink "LetHoles$Wheel" (119 : Nat) ({ cls := "LetHoles$Wheel", name := "payRent", desc := "(LLetHoles$Deeds;I)V" } : Jvm.MethodName) ∈ lw_g := List.mem_filter.mpr ⟨mj_2 (List.mem_of_getElem? (i := 177) rfl), rfl⟩
theorem tw_418 : Jvm.Cond.privateMethod ({ cls := "LetHoles$Wheel", name := "payRent", desc := "(LLetHoles$Deeds;I)V" } : Jvm.MethodName) ∈ lw_tbl := mj_2 (List.mem_of_getElem? (i := 178) rfl)
theorem tw_419 : Jvm.Cond.instanceMethod ({ cls := "LetHoles$Wheel", name := "payRent", desc := "(LLetHoles$Deeds;I)V" } : Jvm.MethodName) ∈ lw_g := List.mem_filter.mpr ⟨mj_2 (List.mem_of_getElem? (i := 179) rfl), rfl⟩
theorem tw_420 : Jvm.Cond.code ({ cls := "LetHoles$Wheel", name := "payRent", desc := "(LLetHoles$Deeds;I)V" } : Jvm.MethodName) prog_7_method_27_code (5 : Nat) (Option.none : Option Jvm.ClassFile.FieldType) ∈ lw_g := List.mem_filter.mpr ⟨mj_2 (List.mem_of_getElem? (i := 180) rfl), rfl⟩
theorem tw_421 : Jvm.Cond.methodLink "LetHolesLaw" (48 : Nat) ({ cls := "LetHoles", name := "eat", desc := "(II)I" } : Jvm.MethodName) ∈ lw_g := List.mem_filter.mpr ⟨mj_2 (List.mem_of_getElem? (i := 181) rfl), rfl⟩
theorem tw_422 : Jvm.Cond.instanceMethod ({ cls := "LetHoles", name := "eat", desc := "(II)I" } : Jvm.MethodName) ∈ lw_g := List.mem_filter.mpr ⟨mj_2 (List.mem_of_getElem? (i := 182) rfl), rfl⟩
theorem tw_423 : Jvm.Cond.selects "LetHoles" ({ cls := "LetHoles", name := "eat", desc := "(II)I" } : Jvm.MethodName) ({ cls := "LetHoles", name := "eat", desc := "(II)I" } : Jvm.MethodName) ∈ lw_g := List.mem_filter.mpr ⟨mj_2 (List.mem_of_getElem? (i := 183) rfl), rfl⟩
theorem tw_424 : Jvm.Cond.code ({ cls := "LetHoles", name := "eat", desc := "(II)I" } : Jvm.MethodName) prog_1_method_10_code (4 : Nat) (Option.some Jvm.ClassFile.FieldType.int) ∈ lw_g := List.mem_filter.mpr ⟨mj_2 (List.mem_of_getElem? (i := 184) rfl), rfl⟩
theorem tw_425 : Jvm.Cond.methodLink "LetHoles" (153 : Nat) ({ cls := "LetHoles$Wheel", name := "refusalToEat", desc := "(LLetHoles$Deeds;II)I" } : Jvm.MethodName) ∈ lw_g := List.mem_filter.mpr ⟨mj_2 (List.mem_of_getElem? (i := 185) rfl), rfl⟩
theorem tw_426 : Jvm.Cond.instanceMethod ({ cls := "LetHoles$Wheel", name := "refusalToEat", desc := "(LLetHoles$Deeds;II)I" } : Jvm.MethodName) ∈ lw_g := List.mem_filter.mpr ⟨mj_2 (List.mem_of_getElem? (i := 186) rfl), rfl⟩
theorem tw_427 : Jvm.Cond.selects "LetHoles$Wheel" ({ cls := "LetHoles$Wheel", name := "refusalToEat", desc := "(LLetHoles$Deeds;II)I" } : Jvm.MethodName) ({ cls := "LetHoles$Wheel", name := "refusalToEat", desc := "(LLetHoles$Deeds;II)I" } : Jvm.MethodName) ∈ lw_g := List.mem_filter.mpr ⟨mj_2 (List.mem_of_getElem? (i := 187) rfl), rfl⟩
theorem tw_428 : Jvm.Cond.code ({ cls := "LetHoles$Wheel", name := "refusalToEat", desc := "(LLetHoles$Deeds;II)I" } : Jvm.MethodName) prog_7_method_28_code (4 : Nat) (Option.some Jvm.ClassFile.FieldType.int) ∈ lw_g := List.mem_filter.mpr ⟨mj_2 (List.mem_of_getElem? (i := 188) rfl), rfl⟩
theorem tw_429 : Jvm.Cond.methodLink "LetHoles$Wheel" (159 : Nat) ({ cls := "LetHoles$Grid", name := "hasCell", desc := "(I)Z" } : Jvm.MethodName) ∈ lw_g := List.mem_filter.mpr ⟨mj_2 (List.mem_of_getElem? (i := 189) rfl), rfl⟩
theorem tw_430 : Jvm.Cond.methodLink "LetHoles" (157 : Nat) ({ cls := "LetHoles$Wheel", name := "eatCell", desc := "(LLetHoles$Deeds;II)I" } : Jvm.MethodName) ∈ lw_g := List.mem_filter.mpr ⟨mj_2 (List.mem_of_getElem? (i := 190) rfl), rfl⟩
theorem tw_431 : Jvm.Cond.instanceMethod ({ cls := "LetHoles$Wheel", name := "eatCell", desc := "(LLetHoles$Deeds;II)I" } : Jvm.MethodName) ∈ lw_g := List.mem_filter.mpr ⟨mj_2 (List.mem_of_getElem? (i := 191) rfl), rfl⟩
theorem tw_432 : Jvm.Cond.selects "LetHoles$Wheel" ({ cls := "LetHoles$Wheel", name := "eatCell", desc := "(LLetHoles$Deeds;II)I" } : Jvm.MethodName) ({ cls := "LetHoles$Wheel", name := "eatCell", desc := "(LLetHoles$Deeds;II)I" } : Jvm.MethodName) ∈ lw_g := List.mem_filter.mpr ⟨mj_2 (List.mem_of_getElem? (i := 192) rfl), rfl⟩
theorem tw_433 : Jvm.Cond.code ({ cls := "LetHoles$Wheel", name := "eatCell", desc := "(LLetHoles$Deeds;II)I" } : Jvm.MethodName) prog_7_method_29_code (8 : Nat) (Option.some Jvm.ClassFile.FieldType.int) ∈ lw_g := List.mem_filter.mpr ⟨mj_2 (List.mem_of_getElem? (i := 193) rfl), rfl⟩
theorem tw_434 : Jvm.Cond.methodLink "LetHoles$Wheel" (162 : Nat) ({ cls := "LetHoles$Wheel", name := "ownerAt", desc := "(LLetHoles$Deeds;I)I" } : Jvm.MethodName) ∈ lw_g := List.mem_filter.mpr ⟨mj_2 (List.mem_of_getElem? (i := 194) rfl), rfl⟩
theorem tw_435 : Jvm.Cond.methodLink "LetHoles$Wheel" (166 : Nat) ({ cls := "LetHoles$Wheel", name := "stuffAt", desc := "(I)I" } : Jvm.MethodName) ∈ lw_g := List.mem_filter.mpr ⟨mj_2 (List.mem_of_getElem? (i := 195) rfl), rfl⟩
theorem tw_436 : Jvm.Cond.methodLink "LetHolesLaw" (52 : Nat) ({ cls := "LetHoles", name := "let", desc := "(II)I" } : Jvm.MethodName) ∈ lw_g := List.mem_filter.mpr ⟨mj_2 (List.mem_of_getElem? (i := 196) rfl), rfl⟩
theorem tw_437 : Jvm.Cond.instanceMethod ({ cls := "LetHoles", name := "let", desc := "(II)I" } : Jvm.MethodName) ∈ lw_g := List.mem_filter.mpr ⟨mj_2 (List.mem_of_getElem? (i := 197) rfl), rfl⟩
theorem tw_438 : Jvm.Cond.selects "LetHoles" ({ cls := "LetHoles", name := "let", desc := "(II)I" } : Jvm.MethodName) ({ cls := "LetHoles", name := "let", desc := "(II)I" } : Jvm.MethodName) ∈ lw_g := List.mem_filter.mpr ⟨mj_2 (List.mem_of_getElem? (i := 198) rfl), rfl⟩
theorem tw_439 : Jvm.Cond.code ({ cls := "LetHoles", name := "let", desc := "(II)I" } : Jvm.MethodName) prog_1_method_11_code (4 : Nat) (Option.some Jvm.ClassFile.FieldType.int) ∈ lw_g := List.mem_filter.mpr ⟨mj_2 (List.mem_of_getElem? (i := 199) rfl), rfl⟩
theorem tw_440 : Jvm.Cond.methodLink "LetHoles" (160 : Nat) ({ cls := "LetHoles$Wheel", name := "refusalToLet", desc := "(LLetHoles$Deeds;II)I" } : Jvm.MethodName) ∈ lw_g := List.mem_filter.mpr ⟨mj_2 (List.mem_of_getElem? (i := 200) rfl), rfl⟩
theorem tw_441 : Jvm.Cond.instanceMethod ({ cls := "LetHoles$Wheel", name := "refusalToLet", desc := "(LLetHoles$Deeds;II)I" } : Jvm.MethodName) ∈ lw_g := List.mem_filter.mpr ⟨mj_2 (List.mem_of_getElem? (i := 201) rfl), rfl⟩
theorem tw_442 : Jvm.Cond.selects "LetHoles$Wheel" ({ cls := "LetHoles$Wheel", name := "refusalToLet", desc := "(LLetHoles$Deeds;II)I" } : Jvm.MethodName) ({ cls := "LetHoles$Wheel", name := "refusalToLet", desc := "(LLetHoles$Deeds;II)I" } : Jvm.MethodName) ∈ lw_g := List.mem_filter.mpr ⟨mj_2 (List.mem_of_getElem? (i := 202) rfl), rfl⟩
theorem tw_443 : Jvm.Cond.code ({ cls := "LetHoles$Wheel", name := "refusalToLet", desc := "(LLetHoles$Deeds;II)I" } : Jvm.MethodName) prog_7_method_30_code (5 : Nat) (Option.some Jvm.ClassFile.FieldType.int) ∈ lw_g := List.mem_filter.mpr ⟨mj_2 (List.mem_of_getElem? (i := 203) rfl), rfl⟩
theorem tw_444 : Jvm.Cond.methodLink "LetHoles$Wheel" (169 : Nat) ({ cls := "LetHoles$Wheel", name := "refusalToSell", desc := "(LLetHoles$Deeds;II)I" } : Jvm.MethodName) ∈ lw_g := List.mem_filter.mpr ⟨mj_2 (List.mem_of_getElem? (i := 204) rfl), rfl⟩
theorem tw_445 : Jvm.Cond.instanceMethod ({ cls := "LetHoles$Wheel", name := "refusalToSell", desc := "(LLetHoles$Deeds;II)I" } : Jvm.MethodName) ∈ lw_g := List.mem_filter.mpr ⟨mj_2 (List.mem_of_getElem? (i := 205) rfl), rfl⟩
theorem tw_446 : Jvm.Cond.selects "LetHoles$Wheel" ({ cls := "LetHoles$Wheel", name := "refusalToSell", desc := "(LLetHoles$Deeds;II)I" } : Jvm.MethodName) ({ cls := "LetHoles$Wheel", name := "refusalToSell", desc := "(LLetHoles$Deeds;II)I" } : Jvm.MethodName) ∈ lw_g := List.mem_filter.mpr ⟨mj_2 (List.mem_of_getElem? (i := 206) rfl), rfl⟩
theorem tw_447 : Jvm.Cond.code ({ cls := "LetHoles$Wheel", name := "refusalToSell", desc := "(LLetHoles$Deeds;II)I" } : Jvm.MethodName) prog_7_method_32_code (4 : Nat) (Option.some Jvm.ClassFile.FieldType.int) ∈ lw_g := List.mem_filter.mpr ⟨mj_2 (List.mem_of_getElem? (i := 207) rfl), rfl⟩
theorem tw_448 : Jvm.Cond.methodLink "LetHoles$Wheel" (173 : Nat) ({ cls := "LetHoles$Wheel", name := "isGone", desc := "(I)Z" } : Jvm.MethodName) ∈ lw_g := List.mem_filter.mpr ⟨mj_2 (List.mem_of_getElem? (i := 208) rfl), rfl⟩
theorem tw_449 : Jvm.Cond.instanceMethod ({ cls := "LetHoles$Wheel", name := "isGone", desc := "(I)Z" } : Jvm.MethodName) ∈ lw_g := List.mem_filter.mpr ⟨mj_2 (List.mem_of_getElem? (i := 209) rfl), rfl⟩
theorem tw_450 : Jvm.Cond.selects "LetHoles$Wheel" ({ cls := "LetHoles$Wheel", name := "isGone", desc := "(I)Z" } : Jvm.MethodName) ({ cls := "LetHoles$Wheel", name := "isGone", desc := "(I)Z" } : Jvm.MethodName) ∈ lw_g := List.mem_filter.mpr ⟨mj_2 (List.mem_of_getElem? (i := 210) rfl), rfl⟩
theorem tw_451 : Jvm.Cond.code ({ cls := "LetHoles$Wheel", name := "isGone", desc := "(I)Z" } : Jvm.MethodName) prog_7_method_7_code (2 : Nat) (Option.some Jvm.ClassFile.FieldType.boolean) ∈ lw_g := List.mem_filter.mpr ⟨mj_2 (List.mem_of_getElem? (i := 211) rfl), rfl⟩
theorem tw_452 : Jvm.Cond.methodLink "LetHoles" (163 : Nat) ({ cls := "LetHoles$Wheel", name := "letHole", desc := "(II)I" } : Jvm.MethodName) ∈ lw_g := List.mem_filter.mpr ⟨mj_2 (List.mem_of_getElem? (i := 212) rfl), rfl⟩
theorem tw_453 : Jvm.Cond.instanceMethod ({ cls := "LetHoles$Wheel", name := "letHole", desc := "(II)I" } : Jvm.MethodName) ∈ lw_g := List.mem_filter.mpr ⟨mj_2 (List.mem_of_getElem? (i := 213) rfl), rfl⟩
theorem tw_454 : Jvm.Cond.selects "LetHoles$Wheel" ({ cls := "LetHoles$Wheel", name := "letHole", desc := "(II)I" } : Jvm.MethodName) ({ cls := "LetHoles$Wheel", name := "letHole", desc := "(II)I" } : Jvm.MethodName) ∈ lw_g := List.mem_filter.mpr ⟨mj_2 (List.mem_of_getElem? (i := 214) rfl), rfl⟩
theorem tw_455 : Jvm.Cond.code ({ cls := "LetHoles$Wheel", name := "letHole", desc := "(II)I" } : Jvm.MethodName) prog_7_method_31_code (4 : Nat) (Option.some Jvm.ClassFile.FieldType.int) ∈ lw_g := List.mem_filter.mpr ⟨mj_2 (List.mem_of_getElem? (i := 215) rfl), rfl⟩
theorem tw_456 : Jvm.Cond.methodLink "LetHolesLaw" (56 : Nat) ({ cls := "LetHoles", name := "sell", desc := "(II)I" } : Jvm.MethodName) ∈ lw_g := List.mem_filter.mpr ⟨mj_2 (List.mem_of_getElem? (i := 216) rfl), rfl⟩
theorem tw_457 : Jvm.Cond.instanceMethod ({ cls := "LetHoles", name := "sell", desc := "(II)I" } : Jvm.MethodName) ∈ lw_g := List.mem_filter.mpr ⟨mj_2 (List.mem_of_getElem? (i := 217) rfl), rfl⟩
theorem tw_458 : Jvm.Cond.selects "LetHoles" ({ cls := "LetHoles", name := "sell", desc := "(II)I" } : Jvm.MethodName) ({ cls := "LetHoles", name := "sell", desc := "(II)I" } : Jvm.MethodName) ∈ lw_g := List.mem_filter.mpr ⟨mj_2 (List.mem_of_getElem? (i := 218) rfl), rfl⟩
theorem tw_459 : Jvm.Cond.code ({ cls := "LetHoles", name := "sell", desc := "(II)I" } : Jvm.MethodName) prog_1_method_12_code (4 : Nat) (Option.some Jvm.ClassFile.FieldType.int) ∈ lw_g := List.mem_filter.mpr ⟨mj_2 (List.mem_of_getElem? (i := 219) rfl), rfl⟩
theorem tw_460 : Jvm.Cond.methodLink "LetHoles" (167 : Nat) ({ cls := "LetHoles$Wheel", name := "refusalToSell", desc := "(LLetHoles$Deeds;II)I" } : Jvm.MethodName) ∈ lw_g := List.mem_filter.mpr ⟨mj_2 (List.mem_of_getElem? (i := 220) rfl), rfl⟩
theorem tw_461 : Jvm.Cond.methodLink "LetHoles" (170 : Nat) ({ cls := "LetHoles$Wheel", name := "sellHole", desc := "(II)I" } : Jvm.MethodName) ∈ lw_g := List.mem_filter.mpr ⟨mj_2 (List.mem_of_getElem? (i := 221) rfl), rfl⟩
theorem tw_462 : Jvm.Cond.instanceMethod ({ cls := "LetHoles$Wheel", name := "sellHole", desc := "(II)I" } : Jvm.MethodName) ∈ lw_g := List.mem_filter.mpr ⟨mj_2 (List.mem_of_getElem? (i := 222) rfl), rfl⟩
theorem tw_463 : Jvm.Cond.selects "LetHoles$Wheel" ({ cls := "LetHoles$Wheel", name := "sellHole", desc := "(II)I" } : Jvm.MethodName) ({ cls := "LetHoles$Wheel", name := "sellHole", desc := "(II)I" } : Jvm.MethodName) ∈ lw_g := List.mem_filter.mpr ⟨mj_2 (List.mem_of_getElem? (i := 223) rfl), rfl⟩
theorem tw_464 : Jvm.Cond.code ({ cls := "LetHoles$Wheel", name := "sellHole", desc := "(II)I" } : Jvm.MethodName) prog_7_method_33_code (4 : Nat) (Option.some Jvm.ClassFile.FieldType.int) ∈ lw_g := List.mem_filter.mpr ⟨mj_2 (List.mem_of_getElem? (i := 224) rfl), rfl⟩
theorem tw_465 : Jvm.Cond.methodLink "LetHolesLaw" (60 : Nat) ({ cls := "LetHoles", name := "undo", desc := "()I" } : Jvm.MethodName) ∈ lw_g := List.mem_filter.mpr ⟨mj_2 (List.mem_of_getElem? (i := 225) rfl), rfl⟩
theorem tw_466 : Jvm.Cond.instanceMethod ({ cls := "LetHoles", name := "undo", desc := "()I" } : Jvm.MethodName) ∈ lw_g := List.mem_filter.mpr ⟨mj_2 (List.mem_of_getElem? (i := 226) rfl), rfl⟩
theorem tw_467 : Jvm.Cond.selects "LetHoles" ({ cls := "LetHoles", name := "undo", desc := "()I" } : Jvm.MethodName) ({ cls := "LetHoles", name := "undo", desc := "()I" } : Jvm.MethodName) ∈ lw_g := List.mem_filter.mpr ⟨mj_2 (List.mem_of_getElem? (i := 227) rfl), rfl⟩
theorem tw_468 : Jvm.Cond.code ({ cls := "LetHoles", name := "undo", desc := "()I" } : Jvm.MethodName) prog_1_method_13_code (1 : Nat) (Option.some Jvm.ClassFile.FieldType.int) ∈ lw_g := List.mem_filter.mpr ⟨mj_2 (List.mem_of_getElem? (i := 228) rfl), rfl⟩
theorem tw_469 : Jvm.Cond.methodLink "LetHoles" (176 : Nat) ({ cls := "LetHoles$Acts", name := "takeBack", desc := "(LLetHoles$Wheel;)V" } : Jvm.MethodName) ∈ lw_g := List.mem_filter.mpr ⟨mj_2 (List.mem_of_getElem? (i := 229) rfl), rfl⟩
theorem tw_470 : Jvm.Cond.instanceMethod ({ cls := "LetHoles$Acts", name := "takeBack", desc := "(LLetHoles$Wheel;)V" } : Jvm.MethodName) ∈ lw_g := List.mem_filter.mpr ⟨mj_2 (List.mem_of_getElem? (i := 230) rfl), rfl⟩
theorem tw_471 : Jvm.Cond.selects "LetHoles$Acts" ({ cls := "LetHoles$Acts", name := "takeBack", desc := "(LLetHoles$Wheel;)V" } : Jvm.MethodName) ({ cls := "LetHoles$Acts", name := "takeBack", desc := "(LLetHoles$Wheel;)V" } : Jvm.MethodName) ∈ lw_g := List.mem_filter.mpr ⟨mj_2 (List.mem_of_getElem? (i := 231) rfl), rfl⟩
theorem tw_472 : Jvm.Cond.code ({ cls := "LetHoles$Acts", name := "takeBack", desc := "(LLetHoles$Wheel;)V" } : Jvm.MethodName) prog_2_method_5_code (3 : Nat) (Option.none : Option Jvm.ClassFile.FieldType) ∈ lw_g := List.mem_filter.mpr ⟨mj_2 (List.mem_of_getElem? (i := 232) rfl), rfl⟩
theorem tw_473 : Jvm.Cond.methodLink "LetHolesLaw" (64 : Nat) ({ cls := "LetHoles", name := "way", desc := "(II)I" } : Jvm.MethodName) ∈ lw_g := List.mem_filter.mpr ⟨mj_2 (List.mem_of_getElem? (i := 233) rfl), rfl⟩
theorem tw_474 : Jvm.Cond.instanceMethod ({ cls := "LetHoles", name := "way", desc := "(II)I" } : Jvm.MethodName) ∈ lw_g := List.mem_filter.mpr ⟨mj_2 (List.mem_of_getElem? (i := 234) rfl), rfl⟩
theorem tw_475 : Jvm.Cond.selects "LetHoles" ({ cls := "LetHoles", name := "way", desc := "(II)I" } : Jvm.MethodName) ({ cls := "LetHoles", name := "way", desc := "(II)I" } : Jvm.MethodName) ∈ lw_g := List.mem_filter.mpr ⟨mj_2 (List.mem_of_getElem? (i := 235) rfl), rfl⟩
theorem tw_476 : Jvm.Cond.code ({ cls := "LetHoles", name := "way", desc := "(II)I" } : Jvm.MethodName) prog_1_method_14_code (3 : Nat) (Option.some Jvm.ClassFile.FieldType.int) ∈ lw_g := List.mem_filter.mpr ⟨mj_2 (List.mem_of_getElem? (i := 236) rfl), rfl⟩
theorem tw_477 : Jvm.Cond.methodLink "LetHoles" (179 : Nat) ({ cls := "LetHoles$Wheel", name := "openCells", desc := "()I" } : Jvm.MethodName) ∈ lw_g := List.mem_filter.mpr ⟨mj_2 (List.mem_of_getElem? (i := 237) rfl), rfl⟩
theorem tw_478 : Jvm.Cond.instanceMethod ({ cls := "LetHoles$Wheel", name := "openCells", desc := "()I" } : Jvm.MethodName) ∈ lw_g := List.mem_filter.mpr ⟨mj_2 (List.mem_of_getElem? (i := 238) rfl), rfl⟩
theorem tw_479 : Jvm.Cond.selects "LetHoles$Wheel" ({ cls := "LetHoles$Wheel", name := "openCells", desc := "()I" } : Jvm.MethodName) ({ cls := "LetHoles$Wheel", name := "openCells", desc := "()I" } : Jvm.MethodName) ∈ lw_g := List.mem_filter.mpr ⟨mj_2 (List.mem_of_getElem? (i := 239) rfl), rfl⟩
theorem tw_480 : Jvm.Cond.code ({ cls := "LetHoles$Wheel", name := "openCells", desc := "()I" } : Jvm.MethodName) prog_7_method_13_code (1 : Nat) (Option.some Jvm.ClassFile.FieldType.int) ∈ lw_g := List.mem_filter.mpr ⟨mj_3 (List.mem_of_getElem? (i := 0) rfl), rfl⟩
theorem tw_481 : Jvm.Cond.methodLink "LetHoles" (183 : Nat) ({ cls := "LetHoles$Grid", name := "steps", desc := "(III)I" } : Jvm.MethodName) ∈ lw_g := List.mem_filter.mpr ⟨mj_3 (List.mem_of_getElem? (i := 1) rfl), rfl⟩
theorem tw_482 : Jvm.Cond.static ({ cls := "LetHoles$Grid", name := "steps", desc := "(III)I" } : Jvm.MethodName) ∈ lw_g := List.mem_filter.mpr ⟨mj_3 (List.mem_of_getElem? (i := 2) rfl), rfl⟩
theorem tw_483 : Jvm.Cond.code ({ cls := "LetHoles$Grid", name := "steps", desc := "(III)I" } : Jvm.MethodName) prog_4_method_11_code (6 : Nat) (Option.some Jvm.ClassFile.FieldType.int) ∈ lw_g := List.mem_filter.mpr ⟨mj_3 (List.mem_of_getElem? (i := 3) rfl), rfl⟩
theorem tw_484 : Jvm.Cond.methodLink "LetHoles$Grid" (40 : Nat) ({ cls := "LetHoles$Grid", name := "bitOf", desc := "(I)I" } : Jvm.MethodName) ∈ lw_g := List.mem_filter.mpr ⟨mj_3 (List.mem_of_getElem? (i := 4) rfl), rfl⟩
theorem tw_485 : Jvm.Cond.methodLink "LetHoles$Grid" (19 : Nat) ({ cls := "LetHoles$Grid", name := "beside", desc := "(I)I" } : Jvm.MethodName) ∈ lw_g := List.mem_filter.mpr ⟨mj_3 (List.mem_of_getElem? (i := 5) rfl), rfl⟩
theorem tw_486 : Jvm.Cond.methodLink "LetHolesLaw" (68 : Nat) ({ cls := "LetHoles", name := "gnaw", desc := "(II)I" } : Jvm.MethodName) ∈ lw_g := List.mem_filter.mpr ⟨mj_3 (List.mem_of_getElem? (i := 6) rfl), rfl⟩
theorem tw_487 : Jvm.Cond.instanceMethod ({ cls := "LetHoles", name := "gnaw", desc := "(II)I" } : Jvm.MethodName) ∈ lw_g := List.mem_filter.mpr ⟨mj_3 (List.mem_of_getElem? (i := 7) rfl), rfl⟩
theorem tw_488 : Jvm.Cond.selects "LetHoles" ({ cls := "LetHoles", name := "gnaw", desc := "(II)I" } : Jvm.MethodName) ({ cls := "LetHoles", name := "gnaw", desc := "(II)I" } : Jvm.MethodName) ∈ lw_g := List.mem_filter.mpr ⟨mj_3 (List.mem_of_getElem? (i := 8) rfl), rfl⟩
theorem tw_489 : Jvm.Cond.code ({ cls := "LetHoles", name := "gnaw", desc := "(II)I" } : Jvm.MethodName) prog_1_method_15_code (3 : Nat) (Option.some Jvm.ClassFile.FieldType.int) ∈ lw_g := List.mem_filter.mpr ⟨mj_3 (List.mem_of_getElem? (i := 9) rfl), rfl⟩
theorem tw_490 : Jvm.Cond.methodLink "LetHoles" (187 : Nat) ({ cls := "LetHoles$Wheel", name := "softPaste", desc := "(LLetHoles$Deeds;)I" } : Jvm.MethodName) ∈ lw_g := List.mem_filter.mpr ⟨mj_3 (List.mem_of_getElem? (i := 10) rfl), rfl⟩
theorem tw_491 : Jvm.Cond.methodLink "LetHoles" (190 : Nat) ({ cls := "LetHoles$Grid", name := "fewestGnawed", desc := "(IIII)I" } : Jvm.MethodName) ∈ lw_g := List.mem_filter.mpr ⟨mj_3 (List.mem_of_getElem? (i := 11) rfl), rfl⟩
theorem tw_492 : Jvm.Cond.static ({ cls := "LetHoles$Grid", name := "fewestGnawed", desc := "(IIII)I" } : Jvm.MethodName) ∈ lw_g := List.mem_filter.mpr ⟨mj_3 (List.mem_of_getElem? (i := 12) rfl), rfl⟩
theorem tw_493 : Jvm.Cond.code ({ cls := "LetHoles$Grid", name := "fewestGnawed", desc := "(IIII)I" } : Jvm.MethodName) prog_4_method_12_code (7 : Nat) (Option.some Jvm.ClassFile.FieldType.int) ∈ lw_g := List.mem_filter.mpr ⟨mj_3 (List.mem_of_getElem? (i := 13) rfl), rfl⟩
theorem tw_494 : Jvm.Cond.methodLink "LetHoles$Grid" (26 : Nat) ({ cls := "LetHoles$Grid", name := "flood", desc := "(II)I" } : Jvm.MethodName) ∈ lw_g := List.mem_filter.mpr ⟨mj_3 (List.mem_of_getElem? (i := 14) rfl), rfl⟩
theorem tw_495 : Jvm.Cond.static ({ cls := "LetHoles$Grid", name := "flood", desc := "(II)I" } : Jvm.MethodName) ∈ lw_g := List.mem_filter.mpr ⟨mj_3 (List.mem_of_getElem? (i := 15) rfl), rfl⟩
theorem tw_496 : Jvm.Cond.code ({ cls := "LetHoles$Grid", name := "flood", desc := "(II)I" } : Jvm.MethodName) prog_4_method_9_code (5 : Nat) (Option.some Jvm.ClassFile.FieldType.int) ∈ lw_g := List.mem_filter.mpr ⟨mj_3 (List.mem_of_getElem? (i := 16) rfl), rfl⟩
theorem tw_497 : Jvm.Cond.methodLink "LetHolesLaw" (72 : Nat) ({ cls := "LetHoles", name := "wedding", desc := "(II)I" } : Jvm.MethodName) ∈ lw_g := List.mem_filter.mpr ⟨mj_3 (List.mem_of_getElem? (i := 17) rfl), rfl⟩
theorem tw_498 : Jvm.Cond.instanceMethod ({ cls := "LetHoles", name := "wedding", desc := "(II)I" } : Jvm.MethodName) ∈ lw_g := List.mem_filter.mpr ⟨mj_3 (List.mem_of_getElem? (i := 18) rfl), rfl⟩
theorem tw_499 : Jvm.Cond.selects "LetHoles" ({ cls := "LetHoles", name := "wedding", desc := "(II)I" } : Jvm.MethodName) ({ cls := "LetHoles", name := "wedding", desc := "(II)I" } : Jvm.MethodName) ∈ lw_g := List.mem_filter.mpr ⟨mj_3 (List.mem_of_getElem? (i := 19) rfl), rfl⟩
theorem tw_500 : Jvm.Cond.code ({ cls := "LetHoles", name := "wedding", desc := "(II)I" } : Jvm.MethodName) prog_1_method_16_code (4 : Nat) (Option.some Jvm.ClassFile.FieldType.int) ∈ lw_g := List.mem_filter.mpr ⟨mj_3 (List.mem_of_getElem? (i := 20) rfl), rfl⟩
theorem tw_501 : Jvm.Cond.methodLink "LetHoles" (194 : Nat) ({ cls := "LetHoles$Wheel", name := "copyFrom", desc := "(LLetHoles$Wheel;)V" } : Jvm.MethodName) ∈ lw_g := List.mem_filter.mpr ⟨mj_3 (List.mem_of_getElem? (i := 21) rfl), rfl⟩
theorem tw_502 : Jvm.Cond.methodLink "LetHoles" (197 : Nat) ({ cls := "LetHoles$Wheel", name := "isGone", desc := "(I)Z" } : Jvm.MethodName) ∈ lw_g := List.mem_filter.mpr ⟨mj_3 (List.mem_of_getElem? (i := 22) rfl), rfl⟩
theorem tw_503 : Jvm.Cond.methodLink "LetHolesLaw" (76 : Nat) ({ cls := "LetHoles", name := "ahead", desc := "(II)I" } : Jvm.MethodName) ∈ lw_g := List.mem_filter.mpr ⟨mj_3 (List.mem_of_getElem? (i := 23) rfl), rfl⟩
theorem tw_504 : Jvm.Cond.instanceMethod ({ cls := "LetHoles", name := "ahead", desc := "(II)I" } : Jvm.MethodName) ∈ lw_g := List.mem_filter.mpr ⟨mj_3 (List.mem_of_getElem? (i := 24) rfl), rfl⟩
theorem tw_505 : Jvm.Cond.selects "LetHoles" ({ cls := "LetHoles", name := "ahead", desc := "(II)I" } : Jvm.MethodName) ({ cls := "LetHoles", name := "ahead", desc := "(II)I" } : Jvm.MethodName) ∈ lw_g := List.mem_filter.mpr ⟨mj_3 (List.mem_of_getElem? (i := 25) rfl), rfl⟩
theorem tw_506 : Jvm.Cond.code ({ cls := "LetHoles", name := "ahead", desc := "(II)I" } : Jvm.MethodName) prog_1_method_17_code (4 : Nat) (Option.some Jvm.ClassFile.FieldType.int) ∈ lw_g := List.mem_filter.mpr ⟨mj_3 (List.mem_of_getElem? (i := 26) rfl), rfl⟩
theorem tw_507 : Jvm.Cond.methodLink "LetHoles" (200 : Nat) ({ cls := "LetHoles$Wheel", name := "holesLeft", desc := "()I" } : Jvm.MethodName) ∈ lw_g := List.mem_filter.mpr ⟨mj_3 (List.mem_of_getElem? (i := 27) rfl), rfl⟩
theorem tw_508 : Jvm.Cond.instanceMethod ({ cls := "LetHoles$Wheel", name := "holesLeft", desc := "()I" } : Jvm.MethodName) ∈ lw_g := List.mem_filter.mpr ⟨mj_3 (List.mem_of_getElem? (i := 28) rfl), rfl⟩
theorem tw_509 : Jvm.Cond.selects "LetHoles$Wheel" ({ cls := "LetHoles$Wheel", name := "holesLeft", desc := "()I" } : Jvm.MethodName) ({ cls := "LetHoles$Wheel", name := "holesLeft", desc := "()I" } : Jvm.MethodName) ∈ lw_g := List.mem_filter.mpr ⟨mj_3 (List.mem_of_getElem? (i := 29) rfl), rfl⟩
theorem tw_510 : Jvm.Cond.code ({ cls := "LetHoles$Wheel", name := "holesLeft", desc := "()I" } : Jvm.MethodName) prog_7_method_8_code (3 : Nat) (Option.some Jvm.ClassFile.FieldType.int) ∈ lw_g := List.mem_filter.mpr ⟨mj_3 (List.mem_of_getElem? (i := 30) rfl), rfl⟩
theorem tw_511 : Jvm.Cond.methodLink "LetHoles" (203 : Nat) ({ cls := "LetHoles$Wheel", name := "pasteCells", desc := "()I" } : Jvm.MethodName) ∈ lw_g := List.mem_filter.mpr ⟨mj_3 (List.mem_of_getElem? (i := 31) rfl), rfl⟩
theorem tw_512 : Jvm.Cond.methodLink "LetHolesLaw" (80 : Nat) ({ cls := "LetHoles", name := "cut", desc := "(III)I" } : Jvm.MethodName) ∈ lw_g := List.mem_filter.mpr ⟨mj_3 (List.mem_of_getElem? (i := 32) rfl), rfl⟩
theorem tw_513 : Jvm.Cond.instanceMethod ({ cls := "LetHoles", name := "cut", desc := "(III)I" } : Jvm.MethodName) ∈ lw_g := List.mem_filter.mpr ⟨mj_3 (List.mem_of_getElem? (i := 33) rfl), rfl⟩
theorem tw_514 : Jvm.Cond.selects "LetHoles" ({ cls := "LetHoles", name := "cut", desc := "(III)I" } : Jvm.MethodName) ({ cls := "LetHoles", name := "cut", desc := "(III)I" } : Jvm.MethodName) ∈ lw_g := List.mem_filter.mpr ⟨mj_3 (List.mem_of_getElem? (i := 34) rfl), rfl⟩
theorem tw_515 : Jvm.Cond.code ({ cls := "LetHoles", name := "cut", desc := "(III)I" } : Jvm.MethodName) prog_1_method_18_code (11 : Nat) (Option.some Jvm.ClassFile.FieldType.int) ∈ lw_g := List.mem_filter.mpr ⟨mj_3 (List.mem_of_getElem? (i := 35) rfl), rfl⟩
theorem tw_516 : Jvm.Cond.methodLink "LetHoles" (206 : Nat) ({ cls := "LetHoles$Grid", name := "cellsLeftOf", desc := "(I)I" } : Jvm.MethodName) ∈ lw_g := List.mem_filter.mpr ⟨mj_3 (List.mem_of_getElem? (i := 36) rfl), rfl⟩
theorem tw_517 : Jvm.Cond.static ({ cls := "LetHoles$Grid", name := "cellsLeftOf", desc := "(I)I" } : Jvm.MethodName) ∈ lw_g := List.mem_filter.mpr ⟨mj_3 (List.mem_of_getElem? (i := 37) rfl), rfl⟩
theorem tw_518 : Jvm.Cond.code ({ cls := "LetHoles$Grid", name := "cellsLeftOf", desc := "(I)I" } : Jvm.MethodName) prog_4_method_5_code (3 : Nat) (Option.some Jvm.ClassFile.FieldType.int) ∈ lw_g := List.mem_filter.mpr ⟨mj_3 (List.mem_of_getElem? (i := 38) rfl), rfl⟩
theorem tw_519 : Jvm.Cond.methodLink "LetHolesLaw" (87 : Nat) ({ cls := "LetHoles", name := "judge", desc := "(IJ)I" } : Jvm.MethodName) ∈ lw_g := List.mem_filter.mpr ⟨mj_3 (List.mem_of_getElem? (i := 39) rfl), rfl⟩
theorem tw_520 : Jvm.Cond.instanceMethod ({ cls := "LetHoles", name := "judge", desc := "(IJ)I" } : Jvm.MethodName) ∈ lw_g := List.mem_filter.mpr ⟨mj_3 (List.mem_of_getElem? (i := 40) rfl), rfl⟩
theorem tw_521 : Jvm.Cond.selects "LetHoles" ({ cls := "LetHoles", name := "judge", desc := "(IJ)I" } : Jvm.MethodName) ({ cls := "LetHoles", name := "judge", desc := "(IJ)I" } : Jvm.MethodName) ∈ lw_g := List.mem_filter.mpr ⟨mj_3 (List.mem_of_getElem? (i := 41) rfl), rfl⟩
theorem tw_522 : Jvm.Cond.code ({ cls := "LetHoles", name := "judge", desc := "(IJ)I" } : Jvm.MethodName) prog_1_method_19_code (10 : Nat) (Option.some Jvm.ClassFile.FieldType.int) ∈ lw_g := List.mem_filter.mpr ⟨mj_3 (List.mem_of_getElem? (i := 42) rfl), rfl⟩
theorem tw_523 : Jvm.Cond.constantLong "LetHoles" (209 : Nat) (10000 : Int64) ∈ lw_g := List.mem_filter.mpr ⟨mj_3 (List.mem_of_getElem? (i := 43) rfl), rfl⟩
theorem tw_524 : Jvm.Cond.methodLink "LetHoles" (211 : Nat) ({ cls := "LetHoles$Wheel", name := "doTold", desc := "(LLetHoles$Deeds;I)Z" } : Jvm.MethodName) ∈ lw_g := List.mem_filter.mpr ⟨mj_3 (List.mem_of_getElem? (i := 44) rfl), rfl⟩
theorem tw_525 : Jvm.Cond.instanceMethod ({ cls := "LetHoles$Wheel", name := "doTold", desc := "(LLetHoles$Deeds;I)Z" } : Jvm.MethodName) ∈ lw_g := List.mem_filter.mpr ⟨mj_3 (List.mem_of_getElem? (i := 45) rfl), rfl⟩
theorem tw_526 : Jvm.Cond.selects "LetHoles$Wheel" ({ cls := "LetHoles$Wheel", name := "doTold", desc := "(LLetHoles$Deeds;I)Z" } : Jvm.MethodName) ({ cls := "LetHoles$Wheel", name := "doTold", desc := "(LLetHoles$Deeds;I)Z" } : Jvm.MethodName) ∈ lw_g := List.mem_filter.mpr ⟨mj_3 (List.mem_of_getElem? (i := 46) rfl), rfl⟩
theorem tw_527 : Jvm.Cond.code ({ cls := "LetHoles$Wheel", name := "doTold", desc := "(LLetHoles$Deeds;I)Z" } : Jvm.MethodName) prog_7_method_34_code (5 : Nat) (Option.some Jvm.ClassFile.FieldType.boolean) ∈ lw_g := List.mem_filter.mpr ⟨mj_3 (List.mem_of_getElem? (i := 47) rfl), rfl⟩
theorem tw_528 : Jvm.Cond.methodLink "LetHoles$Wheel" (176 : Nat) ({ cls := "LetHoles$Wheel", name := "passDay", desc := "(LLetHoles$Deeds;)I" } : Jvm.MethodName) ∈ lw_g := List.mem_filter.mpr ⟨mj_3 (List.mem_of_getElem? (i := 48) rfl), rfl⟩
theorem tw_529 : Jvm.Cond.methodLink "LetHoles$Wheel" (179 : Nat) ({ cls := "LetHoles$Wheel", name := "refusalToEat", desc := "(LLetHoles$Deeds;II)I" } : Jvm.MethodName) ∈ lw_g := List.mem_filter.mpr ⟨mj_3 (List.mem_of_getElem? (i := 49) rfl), rfl⟩
theorem tw_530 : Jvm.Cond.methodLink "LetHoles$Wheel" (182 : Nat) ({ cls := "LetHoles$Wheel", name := "eatCell", desc := "(LLetHoles$Deeds;II)I" } : Jvm.MethodName) ∈ lw_g := List.mem_filter.mpr ⟨mj_3 (List.mem_of_getElem? (i := 50) rfl), rfl⟩
theorem tw_531 : Jvm.Cond.methodLink "LetHoles$Wheel" (185 : Nat) ({ cls := "LetHoles$Wheel", name := "refusalToLet", desc := "(LLetHoles$Deeds;II)I" } : Jvm.MethodName) ∈ lw_g := List.mem_filter.mpr ⟨mj_3 (List.mem_of_getElem? (i := 51) rfl), rfl⟩
theorem tw_532 : Jvm.Cond.methodLink "LetHoles$Wheel" (188 : Nat) ({ cls := "LetHoles$Wheel", name := "letHole", desc := "(II)I" } : Jvm.MethodName) ∈ lw_g := List.mem_filter.mpr ⟨mj_3 (List.mem_of_getElem? (i := 52) rfl), rfl⟩
theorem tw_533 : Jvm.Cond.methodLink "LetHoles$Wheel" (192 : Nat) ({ cls := "LetHoles$Wheel", name := "sellHole", desc := "(II)I" } : Jvm.MethodName) ∈ lw_g := List.mem_filter.mpr ⟨mj_3 (List.mem_of_getElem? (i := 53) rfl), rfl⟩
theorem tw_534 : Jvm.Cond.methodLink "LetHolesLaw" (92 : Nat) ({ cls := "LetHoles", name := "taste", desc := "(III)I" } : Jvm.MethodName) ∈ lw_g := List.mem_filter.mpr ⟨mj_3 (List.mem_of_getElem? (i := 54) rfl), rfl⟩
theorem tw_535 : Jvm.Cond.instanceMethod ({ cls := "LetHoles", name := "taste", desc := "(III)I" } : Jvm.MethodName) ∈ lw_g := List.mem_filter.mpr ⟨mj_3 (List.mem_of_getElem? (i := 55) rfl), rfl⟩
theorem tw_536 : Jvm.Cond.selects "LetHoles" ({ cls := "LetHoles", name := "taste", desc := "(III)I" } : Jvm.MethodName) ({ cls := "LetHoles", name := "taste", desc := "(III)I" } : Jvm.MethodName) ∈ lw_g := List.mem_filter.mpr ⟨mj_3 (List.mem_of_getElem? (i := 56) rfl), rfl⟩
theorem tw_537 : Jvm.Cond.code ({ cls := "LetHoles", name := "taste", desc := "(III)I" } : Jvm.MethodName) prog_1_method_20_code (4 : Nat) (Option.some Jvm.ClassFile.FieldType.int) ∈ lw_g := List.mem_filter.mpr ⟨mj_3 (List.mem_of_getElem? (i := 57) rfl), rfl⟩
theorem tw_538 : Jvm.Cond.methodLink "LetHoles" (216 : Nat) ({ cls := "LetHoles$Tasted", name := "addOne", desc := "(IIZ)V" } : Jvm.MethodName) ∈ lw_g := List.mem_filter.mpr ⟨mj_3 (List.mem_of_getElem? (i := 58) rfl), rfl⟩
theorem tw_539 : Jvm.Cond.instanceMethod ({ cls := "LetHoles$Tasted", name := "addOne", desc := "(IIZ)V" } : Jvm.MethodName) ∈ lw_g := List.mem_filter.mpr ⟨mj_3 (List.mem_of_getElem? (i := 59) rfl), rfl⟩
theorem tw_540 : Jvm.Cond.selects "LetHoles$Tasted" ({ cls := "LetHoles$Tasted", name := "addOne", desc := "(IIZ)V" } : Jvm.MethodName) ({ cls := "LetHoles$Tasted", name := "addOne", desc := "(IIZ)V" } : Jvm.MethodName) ∈ lw_g := List.mem_filter.mpr ⟨mj_3 (List.mem_of_getElem? (i := 60) rfl), rfl⟩
theorem tw_541 : Jvm.Cond.code ({ cls := "LetHoles$Tasted", name := "addOne", desc := "(IIZ)V" } : Jvm.MethodName) prog_6_method_2_code (4 : Nat) (Option.none : Option Jvm.ClassFile.FieldType) ∈ lw_g := List.mem_filter.mpr ⟨mj_3 (List.mem_of_getElem? (i := 61) rfl), rfl⟩
theorem tw_542 : Jvm.Cond.methodLink "LetHolesLaw" (96 : Nat) ({ cls := "LetHoles", name := "rinse", desc := "()I" } : Jvm.MethodName) ∈ lw_g := List.mem_filter.mpr ⟨mj_3 (List.mem_of_getElem? (i := 62) rfl), rfl⟩
theorem tw_543 : Jvm.Cond.instanceMethod ({ cls := "LetHoles", name := "rinse", desc := "()I" } : Jvm.MethodName) ∈ lw_g := List.mem_filter.mpr ⟨mj_3 (List.mem_of_getElem? (i := 63) rfl), rfl⟩
theorem tw_544 : Jvm.Cond.selects "LetHoles" ({ cls := "LetHoles", name := "rinse", desc := "()I" } : Jvm.MethodName) ({ cls := "LetHoles", name := "rinse", desc := "()I" } : Jvm.MethodName) ∈ lw_g := List.mem_filter.mpr ⟨mj_3 (List.mem_of_getElem? (i := 64) rfl), rfl⟩
theorem tw_545 : Jvm.Cond.code ({ cls := "LetHoles", name := "rinse", desc := "()I" } : Jvm.MethodName) prog_1_method_21_code (2 : Nat) (Option.some Jvm.ClassFile.FieldType.int) ∈ lw_g := List.mem_filter.mpr ⟨mj_3 (List.mem_of_getElem? (i := 65) rfl), rfl⟩
theorem tw_546 : Jvm.Cond.methodLink "LetHolesLaw" (100 : Nat) ({ cls := "LetHoles", name := "began", desc := "(I)I" } : Jvm.MethodName) ∈ lw_g := List.mem_filter.mpr ⟨mj_3 (List.mem_of_getElem? (i := 66) rfl), rfl⟩
theorem tw_547 : Jvm.Cond.instanceMethod ({ cls := "LetHoles", name := "began", desc := "(I)I" } : Jvm.MethodName) ∈ lw_g := List.mem_filter.mpr ⟨mj_3 (List.mem_of_getElem? (i := 67) rfl), rfl⟩
theorem tw_548 : Jvm.Cond.selects "LetHoles" ({ cls := "LetHoles", name := "began", desc := "(I)I" } : Jvm.MethodName) ({ cls := "LetHoles", name := "began", desc := "(I)I" } : Jvm.MethodName) ∈ lw_g := List.mem_filter.mpr ⟨mj_3 (List.mem_of_getElem? (i := 68) rfl), rfl⟩
theorem tw_549 : Jvm.Cond.code ({ cls := "LetHoles", name := "began", desc := "(I)I" } : Jvm.MethodName) prog_1_method_22_code (4 : Nat) (Option.some Jvm.ClassFile.FieldType.int) ∈ lw_g := List.mem_filter.mpr ⟨mj_3 (List.mem_of_getElem? (i := 69) rfl), rfl⟩
theorem tw_550 : Jvm.Cond.methodLink "LetHoles" (220 : Nat) ({ cls := "LetHoles$Deeds", name := "tellLoneHole", desc := "(I)V" } : Jvm.MethodName) ∈ lw_g := List.mem_filter.mpr ⟨mj_3 (List.mem_of_getElem? (i := 70) rfl), rfl⟩
theorem tw_551 : Jvm.Cond.instanceMethod ({ cls := "LetHoles$Deeds", name := "tellLoneHole", desc := "(I)V" } : Jvm.MethodName) ∈ lw_g := List.mem_filter.mpr ⟨mj_3 (List.mem_of_getElem? (i := 71) rfl), rfl⟩
theorem tw_552 : Jvm.Cond.selects "LetHoles$Deeds" ({ cls := "LetHoles$Deeds", name := "tellLoneHole", desc := "(I)V" } : Jvm.MethodName) ({ cls := "LetHoles$Deeds", name := "tellLoneHole", desc := "(I)V" } : Jvm.MethodName) ∈ lw_g := List.mem_filter.mpr ⟨mj_3 (List.mem_of_getElem? (i := 72) rfl), rfl⟩
theorem tw_553 : Jvm.Cond.code ({ cls := "LetHoles$Deeds", name := "tellLoneHole", desc := "(I)V" } : Jvm.MethodName) prog_3_method_7_code (2 : Nat) (Option.none : Option Jvm.ClassFile.FieldType) ∈ lw_g := List.mem_filter.mpr ⟨mj_3 (List.mem_of_getElem? (i := 73) rfl), rfl⟩
theorem tw_554 : Jvm.Cond.methodLink "LetHoles" (224 : Nat) ({ cls := "LetHoles", name := "mayHaveBegun", desc := "(I)Z" } : Jvm.MethodName) ∈ lw_g := List.mem_filter.mpr ⟨mj_3 (List.mem_of_getElem? (i := 74) rfl), rfl⟩
theorem tw_555 : Jvm.Cond.privateMethod ({ cls := "LetHoles", name := "mayHaveBegun", desc := "(I)Z" } : Jvm.MethodName) ∈ lw_tbl := mj_3 (List.mem_of_getElem? (i := 75) rfl)
theorem tw_556 : Jvm.Cond.instanceMethod ({ cls := "LetHoles", name := "mayHaveBegun", desc := "(I)Z" } : Jvm.MethodName) ∈ lw_g := List.mem_filter.mpr ⟨mj_3 (List.mem_of_getElem? (i := 76) rfl), rfl⟩
theorem tw_557 : Jvm.Cond.code ({ cls := "LetHoles", name := "mayHaveBegun", desc := "(I)Z" } : Jvm.MethodName) prog_1_method_23_code (3 : Nat) (Option.some Jvm.ClassFile.FieldType.boolean) ∈ lw_g := List.mem_filter.mpr ⟨mj_3 (List.mem_of_getElem? (i := 77) rfl), rfl⟩
theorem tw_558 : Jvm.Cond.methodLink "LetHoles" (227 : Nat) ({ cls := "LetHoles$Wheel", name := "putLoneHole", desc := "(I)V" } : Jvm.MethodName) ∈ lw_g := List.mem_filter.mpr ⟨mj_3 (List.mem_of_getElem? (i := 78) rfl), rfl⟩
theorem tw_559 : Jvm.Cond.instanceMethod ({ cls := "LetHoles$Wheel", name := "putLoneHole", desc := "(I)V" } : Jvm.MethodName) ∈ lw_g := List.mem_filter.mpr ⟨mj_3 (List.mem_of_getElem? (i := 79) rfl), rfl⟩
theorem tw_560 : Jvm.Cond.selects "LetHoles$Wheel" ({ cls := "LetHoles$Wheel", name := "putLoneHole", desc := "(I)V" } : Jvm.MethodName) ({ cls := "LetHoles$Wheel", name := "putLoneHole", desc := "(I)V" } : Jvm.MethodName) ∈ lw_g := List.mem_filter.mpr ⟨mj_3 (List.mem_of_getElem? (i := 80) rfl), rfl⟩
theorem tw_561 : Jvm.Cond.code ({ cls := "LetHoles$Wheel", name := "putLoneHole", desc := "(I)V" } : Jvm.MethodName) prog_7_method_4_code (2 : Nat) (Option.none : Option Jvm.ClassFile.FieldType) ∈ lw_g := List.mem_filter.mpr ⟨mj_3 (List.mem_of_getElem? (i := 81) rfl), rfl⟩
theorem tw_562 : Jvm.Cond.methodLink "LetHoles" (230 : Nat) ({ cls := "LetHoles$Wheel", name := "holeCells", desc := "()I" } : Jvm.MethodName) ∈ lw_g := List.mem_filter.mpr ⟨mj_3 (List.mem_of_getElem? (i := 82) rfl), rfl⟩
theorem tw_563 : Jvm.Cond.methodLink "LetHoles" (233 : Nat) ({ cls := "LetHoles$Tasted", name := "agrees", desc := "(II)Z" } : Jvm.MethodName) ∈ lw_g := List.mem_filter.mpr ⟨mj_3 (List.mem_of_getElem? (i := 83) rfl), rfl⟩
theorem tw_564 : Jvm.Cond.instanceMethod ({ cls := "LetHoles$Tasted", name := "agrees", desc := "(II)Z" } : Jvm.MethodName) ∈ lw_g := List.mem_filter.mpr ⟨mj_3 (List.mem_of_getElem? (i := 84) rfl), rfl⟩
theorem tw_565 : Jvm.Cond.selects "LetHoles$Tasted" ({ cls := "LetHoles$Tasted", name := "agrees", desc := "(II)Z" } : Jvm.MethodName) ({ cls := "LetHoles$Tasted", name := "agrees", desc := "(II)Z" } : Jvm.MethodName) ∈ lw_g := List.mem_filter.mpr ⟨mj_3 (List.mem_of_getElem? (i := 85) rfl), rfl⟩
theorem tw_566 : Jvm.Cond.code ({ cls := "LetHoles$Tasted", name := "agrees", desc := "(II)Z" } : Jvm.MethodName) prog_6_method_3_code (5 : Nat) (Option.some Jvm.ClassFile.FieldType.boolean) ∈ lw_g := List.mem_filter.mpr ⟨mj_3 (List.mem_of_getElem? (i := 86) rfl), rfl⟩
theorem tw_567 : Jvm.Cond.methodLink "LetHoles$Tasted" (26 : Nat) ({ cls := "LetHoles$Grid", name := "bitOf", desc := "(I)I" } : Jvm.MethodName) ∈ lw_g := List.mem_filter.mpr ⟨mj_3 (List.mem_of_getElem? (i := 87) rfl), rfl⟩
theorem tw_568 : Jvm.Cond.methodLink "LetHolesLaw" (104 : Nat) ({ cls := "LetHoles", name := "share", desc := "(IZ)I" } : Jvm.MethodName) ∈ lw_g := List.mem_filter.mpr ⟨mj_3 (List.mem_of_getElem? (i := 88) rfl), rfl⟩
theorem tw_569 : Jvm.Cond.instanceMethod ({ cls := "LetHoles", name := "share", desc := "(IZ)I" } : Jvm.MethodName) ∈ lw_g := List.mem_filter.mpr ⟨mj_3 (List.mem_of_getElem? (i := 89) rfl), rfl⟩
theorem tw_570 : Jvm.Cond.selects "LetHoles" ({ cls := "LetHoles", name := "share", desc := "(IZ)I" } : Jvm.MethodName) ({ cls := "LetHoles", name := "share", desc := "(IZ)I" } : Jvm.MethodName) ∈ lw_g := List.mem_filter.mpr ⟨mj_3 (List.mem_of_getElem? (i := 90) rfl), rfl⟩
theorem tw_571 : Jvm.Cond.code ({ cls := "LetHoles", name := "share", desc := "(IZ)I" } : Jvm.MethodName) prog_1_method_24_code (9 : Nat) (Option.some Jvm.ClassFile.FieldType.int) ∈ lw_g := List.mem_filter.mpr ⟨mj_3 (List.mem_of_getElem? (i := 91) rfl), rfl⟩
theorem tw_572 : Jvm.Cond.fieldLink "LetHoles" (237 : Nat) "LetHoles" "FACTORIALS" "[I" ∈ lw_g := List.mem_filter.mpr ⟨mj_3 (List.mem_of_getElem? (i := 92) rfl), rfl⟩
theorem tw_573 : Jvm.Cond.laysStatic "LetHoles" "FACTORIALS" "[I" ∈ lw_tbl := mj_3 (List.mem_of_getElem? (i := 93) rfl)
theorem tw_574 : Jvm.Cond.methodLink "LetHoles" (240 : Nat) ({ cls := "LetHoles", name := "largestEstate", desc := "(I)I" } : Jvm.MethodName) ∈ lw_g := List.mem_filter.mpr ⟨mj_3 (List.mem_of_getElem? (i := 94) rfl), rfl⟩
theorem tw_575 : Jvm.Cond.privateMethod ({ cls := "LetHoles", name := "largestEstate", desc := "(I)I" } : Jvm.MethodName) ∈ lw_tbl := mj_3 (List.mem_of_getElem? (i := 95) rfl)
theorem tw_576 : Jvm.Cond.instanceMethod ({ cls := "LetHoles", name := "largestEstate", desc := "(I)I" } : Jvm.MethodName) ∈ lw_g := List.mem_filter.mpr ⟨mj_3 (List.mem_of_getElem? (i := 96) rfl), rfl⟩
theorem tw_577 : Jvm.Cond.code ({ cls := "LetHoles", name := "largestEstate", desc := "(I)I" } : Jvm.MethodName) prog_1_method_25_code (2 : Nat) (Option.some Jvm.ClassFile.FieldType.int) ∈ lw_g := List.mem_filter.mpr ⟨mj_3 (List.mem_of_getElem? (i := 97) rfl), rfl⟩
theorem tw_578 : Jvm.Cond.methodLink "LetHoles" (247 : Nat) ({ cls := "LetHoles$Grid", name := "largestPatch", desc := "(I)I" } : Jvm.MethodName) ∈ lw_g := List.mem_filter.mpr ⟨mj_3 (List.mem_of_getElem? (i := 98) rfl), rfl⟩
theorem tw_579 : Jvm.Cond.static ({ cls := "LetHoles$Grid", name := "largestPatch", desc := "(I)I" } : Jvm.MethodName) ∈ lw_g := List.mem_filter.mpr ⟨mj_3 (List.mem_of_getElem? (i := 99) rfl), rfl⟩
theorem tw_580 : Jvm.Cond.code ({ cls := "LetHoles$Grid", name := "largestPatch", desc := "(I)I" } : Jvm.MethodName) prog_4_method_10_code (5 : Nat) (Option.some Jvm.ClassFile.FieldType.int) ∈ lw_g := List.mem_filter.mpr ⟨mj_3 (List.mem_of_getElem? (i := 100) rfl), rfl⟩
theorem tw_581 : Jvm.Cond.methodLink "LetHoles$Grid" (23 : Nat) ({ cls := "LetHoles$Grid", name := "leastOf", desc := "(I)I" } : Jvm.MethodName) ∈ lw_g := List.mem_filter.mpr ⟨mj_3 (List.mem_of_getElem? (i := 101) rfl), rfl⟩
theorem tw_582 : Jvm.Cond.methodLink "LetHoles$Grid" (30 : Nat) ({ cls := "java/lang/Integer", name := "bitCount", desc := "(I)I" } : Jvm.MethodName) ∈ lw_g := List.mem_filter.mpr ⟨mj_3 (List.mem_of_getElem? (i := 102) rfl), rfl⟩
theorem tw_583 : Jvm.Cond.methodLink "LetHoles$Grid" (35 : Nat) ({ cls := "java/lang/Math", name := "max", desc := "(II)I" } : Jvm.MethodName) ∈ lw_g := List.mem_filter.mpr ⟨mj_3 (List.mem_of_getElem? (i := 103) rfl), rfl⟩
theorem tw_584 : Jvm.Cond.static ({ cls := "java/lang/Math", name := "max", desc := "(II)I" } : Jvm.MethodName) ∈ lw_g := List.mem_filter.mpr ⟨mj_3 (List.mem_of_getElem? (i := 104) rfl), rfl⟩
theorem tw_585 : Jvm.Cond.code ({ cls := "java/lang/Math", name := "max", desc := "(II)I" } : Jvm.MethodName) prog_11_method_65_code (2 : Nat) (Option.some Jvm.ClassFile.FieldType.int) ∈ lw_g := List.mem_filter.mpr ⟨mj_3 (List.mem_of_getElem? (i := 105) rfl), rfl⟩
theorem tw_586 : Jvm.Cond.methodLink "LetHoles" (243 : Nat) ({ cls := "LetHoles", name := "partOfFraction", desc := "(IIZ)I" } : Jvm.MethodName) ∈ lw_g := List.mem_filter.mpr ⟨mj_3 (List.mem_of_getElem? (i := 106) rfl), rfl⟩
theorem tw_587 : Jvm.Cond.static ({ cls := "LetHoles", name := "partOfFraction", desc := "(IIZ)I" } : Jvm.MethodName) ∈ lw_g := List.mem_filter.mpr ⟨mj_3 (List.mem_of_getElem? (i := 107) rfl), rfl⟩
theorem tw_588 : Jvm.Cond.code ({ cls := "LetHoles", name := "partOfFraction", desc := "(IIZ)I" } : Jvm.MethodName) prog_1_method_37_code (7 : Nat) (Option.some Jvm.ClassFile.FieldType.int) ∈ lw_g := List.mem_filter.mpr ⟨mj_3 (List.mem_of_getElem? (i := 108) rfl), rfl⟩
theorem tw_589 : Jvm.Cond.methodLink "LetHoles" (282 : Nat) ({ cls := "java/lang/Math", name := "abs", desc := "(I)I" } : Jvm.MethodName) ∈ lw_g := List.mem_filter.mpr ⟨mj_3 (List.mem_of_getElem? (i := 109) rfl), rfl⟩
theorem tw_590 : Jvm.Cond.static ({ cls := "java/lang/Math", name := "abs", desc := "(I)I" } : Jvm.MethodName) ∈ lw_g := List.mem_filter.mpr ⟨mj_3 (List.mem_of_getElem? (i := 110) rfl), rfl⟩
theorem tw_591 : Jvm.Cond.code ({ cls := "java/lang/Math", name := "abs", desc := "(I)I" } : Jvm.MethodName) prog_11_method_59_code (1 : Nat) (Option.some Jvm.ClassFile.FieldType.int) ∈ lw_g := List.mem_filter.mpr ⟨mj_3 (List.mem_of_getElem? (i := 111) rfl), rfl⟩
theorem tw_592 : Jvm.Cond.methodLink "LetHolesLaw" (109 : Nat) ({ cls := "LetHoles", name := "rests", desc := "(III)I" } : Jvm.MethodName) ∈ lw_g := List.mem_filter.mpr ⟨mj_3 (List.mem_of_getElem? (i := 112) rfl), rfl⟩
theorem tw_593 : Jvm.Cond.instanceMethod ({ cls := "LetHoles", name := "rests", desc := "(III)I" } : Jvm.MethodName) ∈ lw_g := List.mem_filter.mpr ⟨mj_3 (List.mem_of_getElem? (i := 113) rfl), rfl⟩
theorem tw_594 : Jvm.Cond.selects "LetHoles" ({ cls := "LetHoles", name := "rests", desc := "(III)I" } : Jvm.MethodName) ({ cls := "LetHoles", name := "rests", desc := "(III)I" } : Jvm.MethodName) ∈ lw_g := List.mem_filter.mpr ⟨mj_3 (List.mem_of_getElem? (i := 114) rfl), rfl⟩
theorem tw_595 : Jvm.Cond.code ({ cls := "LetHoles", name := "rests", desc := "(III)I" } : Jvm.MethodName) prog_1_method_26_code (10 : Nat) (Option.some Jvm.ClassFile.FieldType.int) ∈ lw_g := List.mem_filter.mpr ⟨mj_3 (List.mem_of_getElem? (i := 115) rfl), rfl⟩
theorem tw_596 : Jvm.Cond.methodLink "LetHoles" (250 : Nat) ({ cls := "LetHoles$Wheel", name := "holeCellsOf", desc := "(I)I" } : Jvm.MethodName) ∈ lw_g := List.mem_filter.mpr ⟨mj_3 (List.mem_of_getElem? (i := 116) rfl), rfl⟩
theorem tw_597 : Jvm.Cond.instanceMethod ({ cls := "LetHoles$Wheel", name := "holeCellsOf", desc := "(I)I" } : Jvm.MethodName) ∈ lw_g := List.mem_filter.mpr ⟨mj_3 (List.mem_of_getElem? (i := 117) rfl), rfl⟩
theorem tw_598 : Jvm.Cond.selects "LetHoles$Wheel" ({ cls := "LetHoles$Wheel", name := "holeCellsOf", desc := "(I)I" } : Jvm.MethodName) ({ cls := "LetHoles$Wheel", name := "holeCellsOf", desc := "(I)I" } : Jvm.MethodName) ∈ lw_g := List.mem_filter.mpr ⟨mj_3 (List.mem_of_getElem? (i := 118) rfl), rfl⟩
theorem tw_599 : Jvm.Cond.code ({ cls := "LetHoles$Wheel", name := "holeCellsOf", desc := "(I)I" } : Jvm.MethodName) prog_7_method_12_code (2 : Nat) (Option.some Jvm.ClassFile.FieldType.int) ∈ lw_g := List.mem_filter.mpr ⟨mj_3 (List.mem_of_getElem? (i := 119) rfl), rfl⟩
theorem tw_600 : Jvm.Cond.methodLink "LetHoles$Wheel" (69 : Nat) ({ cls := "LetHoles$Wheel", name := "holesOf", desc := "(I)I" } : Jvm.MethodName) ∈ lw_g := List.mem_filter.mpr ⟨mj_3 (List.mem_of_getElem? (i := 120) rfl), rfl⟩
theorem tw_601 : Jvm.Cond.methodLink "LetHoles$Wheel" (72 : Nat) ({ cls := "LetHoles$Wheel", name := "cellsOfHoles", desc := "(I)I" } : Jvm.MethodName) ∈ lw_g := List.mem_filter.mpr ⟨mj_3 (List.mem_of_getElem? (i := 121) rfl), rfl⟩
theorem tw_602 : Jvm.Cond.instanceMethod ({ cls := "LetHoles$Wheel", name := "cellsOfHoles", desc := "(I)I" } : Jvm.MethodName) ∈ lw_g := List.mem_filter.mpr ⟨mj_3 (List.mem_of_getElem? (i := 122) rfl), rfl⟩
theorem tw_603 : Jvm.Cond.selects "LetHoles$Wheel" ({ cls := "LetHoles$Wheel", name := "cellsOfHoles", desc := "(I)I" } : Jvm.MethodName) ({ cls := "LetHoles$Wheel", name := "cellsOfHoles", desc := "(I)I" } : Jvm.MethodName) ∈ lw_g := List.mem_filter.mpr ⟨mj_3 (List.mem_of_getElem? (i := 123) rfl), rfl⟩
theorem tw_604 : Jvm.Cond.code ({ cls := "LetHoles$Wheel", name := "cellsOfHoles", desc := "(I)I" } : Jvm.MethodName) prog_7_method_10_code (4 : Nat) (Option.some Jvm.ClassFile.FieldType.int) ∈ lw_g := List.mem_filter.mpr ⟨mj_3 (List.mem_of_getElem? (i := 124) rfl), rfl⟩
theorem tw_605 : Jvm.Cond.methodLink "LetHoles" (253 : Nat) ({ cls := "LetHoles", name := "isContent", desc := "(III)Z" } : Jvm.MethodName) ∈ lw_g := List.mem_filter.mpr ⟨mj_3 (List.mem_of_getElem? (i := 125) rfl), rfl⟩
theorem tw_606 : Jvm.Cond.static ({ cls := "LetHoles", name := "isContent", desc := "(III)Z" } : Jvm.MethodName) ∈ lw_g := List.mem_filter.mpr ⟨mj_3 (List.mem_of_getElem? (i := 126) rfl), rfl⟩
theorem tw_607 : Jvm.Cond.code ({ cls := "LetHoles", name := "isContent", desc := "(III)Z" } : Jvm.MethodName) prog_1_method_27_code (3 : Nat) (Option.some Jvm.ClassFile.FieldType.boolean) ∈ lw_g := List.mem_filter.mpr ⟨mj_3 (List.mem_of_getElem? (i := 127) rfl), rfl⟩
theorem tw_608 : Jvm.Cond.methodLink "LetHoles" (257 : Nat) ({ cls := "LetHoles", name := "hasByAsking", desc := "(III)I" } : Jvm.MethodName) ∈ lw_g := List.mem_filter.mpr ⟨mj_3 (List.mem_of_getElem? (i := 128) rfl), rfl⟩
theorem tw_609 : Jvm.Cond.static ({ cls := "LetHoles", name := "hasByAsking", desc := "(III)I" } : Jvm.MethodName) ∈ lw_g := List.mem_filter.mpr ⟨mj_3 (List.mem_of_getElem? (i := 129) rfl), rfl⟩
theorem tw_610 : Jvm.Cond.code ({ cls := "LetHoles", name := "hasByAsking", desc := "(III)I" } : Jvm.MethodName) prog_1_method_28_code (3 : Nat) (Option.some Jvm.ClassFile.FieldType.int) ∈ lw_g := List.mem_filter.mpr ⟨mj_3 (List.mem_of_getElem? (i := 130) rfl), rfl⟩
theorem tw_611 : Jvm.Cond.methodLink "LetHolesLaw" (113 : Nat) ({ cls := "LetHoles", name := "passes", desc := "(IIIZ)I" } : Jvm.MethodName) ∈ lw_g := List.mem_filter.mpr ⟨mj_3 (List.mem_of_getElem? (i := 131) rfl), rfl⟩
theorem tw_612 : Jvm.Cond.instanceMethod ({ cls := "LetHoles", name := "passes", desc := "(IIIZ)I" } : Jvm.MethodName) ∈ lw_g := List.mem_filter.mpr ⟨mj_3 (List.mem_of_getElem? (i := 132) rfl), rfl⟩
theorem tw_613 : Jvm.Cond.selects "LetHoles" ({ cls := "LetHoles", name := "passes", desc := "(IIIZ)I" } : Jvm.MethodName) ({ cls := "LetHoles", name := "passes", desc := "(IIIZ)I" } : Jvm.MethodName) ∈ lw_g := List.mem_filter.mpr ⟨mj_3 (List.mem_of_getElem? (i := 133) rfl), rfl⟩
theorem tw_614 : Jvm.Cond.code ({ cls := "LetHoles", name := "passes", desc := "(IIIZ)I" } : Jvm.MethodName) prog_1_method_29_code (9 : Nat) (Option.some Jvm.ClassFile.FieldType.int) ∈ lw_g := List.mem_filter.mpr ⟨mj_3 (List.mem_of_getElem? (i := 134) rfl), rfl⟩
theorem tw_615 : Jvm.Cond.methodLink "LetHoles" (260 : Nat) ({ cls := "LetHoles$Wheel", name := "openBut", desc := "(I)I" } : Jvm.MethodName) ∈ lw_g := List.mem_filter.mpr ⟨mj_3 (List.mem_of_getElem? (i := 135) rfl), rfl⟩
theorem tw_616 : Jvm.Cond.instanceMethod ({ cls := "LetHoles$Wheel", name := "openBut", desc := "(I)I" } : Jvm.MethodName) ∈ lw_g := List.mem_filter.mpr ⟨mj_3 (List.mem_of_getElem? (i := 136) rfl), rfl⟩
theorem tw_617 : Jvm.Cond.selects "LetHoles$Wheel" ({ cls := "LetHoles$Wheel", name := "openBut", desc := "(I)I" } : Jvm.MethodName) ({ cls := "LetHoles$Wheel", name := "openBut", desc := "(I)I" } : Jvm.MethodName) ∈ lw_g := List.mem_filter.mpr ⟨mj_3 (List.mem_of_getElem? (i := 137) rfl), rfl⟩
theorem tw_618 : Jvm.Cond.code ({ cls := "LetHoles$Wheel", name := "openBut", desc := "(I)I" } : Jvm.MethodName) prog_7_method_14_code (2 : Nat) (Option.some Jvm.ClassFile.FieldType.int) ∈ lw_g := List.mem_filter.mpr ⟨mj_3 (List.mem_of_getElem? (i := 138) rfl), rfl⟩
theorem tw_619 : Jvm.Cond.methodLink "LetHoles" (263 : Nat) ({ cls := "LetHoles", name := "weightOfShut", desc := "(III)I" } : Jvm.MethodName) ∈ lw_g := List.mem_filter.mpr ⟨mj_3 (List.mem_of_getElem? (i := 139) rfl), rfl⟩
theorem tw_620 : Jvm.Cond.static ({ cls := "LetHoles", name := "weightOfShut", desc := "(III)I" } : Jvm.MethodName) ∈ lw_g := List.mem_filter.mpr ⟨mj_3 (List.mem_of_getElem? (i := 140) rfl), rfl⟩
theorem tw_621 : Jvm.Cond.code ({ cls := "LetHoles", name := "weightOfShut", desc := "(III)I" } : Jvm.MethodName) prog_1_method_30_code (6 : Nat) (Option.some Jvm.ClassFile.FieldType.int) ∈ lw_g := List.mem_filter.mpr ⟨mj_3 (List.mem_of_getElem? (i := 141) rfl), rfl⟩
theorem tw_622 : Jvm.Cond.methodLink "LetHolesLaw" (118 : Nat) ({ cls := "LetHoles", name := "seed", desc := "(J)J" } : Jvm.MethodName) ∈ lw_g := List.mem_filter.mpr ⟨mj_3 (List.mem_of_getElem? (i := 142) rfl), rfl⟩
theorem tw_623 : Jvm.Cond.instanceMethod ({ cls := "LetHoles", name := "seed", desc := "(J)J" } : Jvm.MethodName) ∈ lw_g := List.mem_filter.mpr ⟨mj_3 (List.mem_of_getElem? (i := 143) rfl), rfl⟩
theorem tw_624 : Jvm.Cond.selects "LetHoles" ({ cls := "LetHoles", name := "seed", desc := "(J)J" } : Jvm.MethodName) ({ cls := "LetHoles", name := "seed", desc := "(J)J" } : Jvm.MethodName) ∈ lw_g := List.mem_filter.mpr ⟨mj_3 (List.mem_of_getElem? (i := 144) rfl), rfl⟩
theorem tw_625 : Jvm.Cond.code ({ cls := "LetHoles", name := "seed", desc := "(J)J" } : Jvm.MethodName) prog_1_method_31_code (5 : Nat) (Option.some Jvm.ClassFile.FieldType.long) ∈ lw_g := List.mem_filter.mpr ⟨mj_3 (List.mem_of_getElem? (i := 145) rfl), rfl⟩
theorem tw_626 : Jvm.Cond.methodLink "LetHolesLaw" (123 : Nat) ({ cls := "LetHoles", name := "years", desc := "(I)I" } : Jvm.MethodName) ∈ lw_g := List.mem_filter.mpr ⟨mj_3 (List.mem_of_getElem? (i := 146) rfl), rfl⟩
theorem tw_627 : Jvm.Cond.instanceMethod ({ cls := "LetHoles", name := "years", desc := "(I)I" } : Jvm.MethodName) ∈ lw_g := List.mem_filter.mpr ⟨mj_3 (List.mem_of_getElem? (i := 147) rfl), rfl⟩
theorem tw_628 : Jvm.Cond.selects "LetHoles" ({ cls := "LetHoles", name := "years", desc := "(I)I" } : Jvm.MethodName) ({ cls := "LetHoles", name := "years", desc := "(I)I" } : Jvm.MethodName) ∈ lw_g := List.mem_filter.mpr ⟨mj_3 (List.mem_of_getElem? (i := 148) rfl), rfl⟩
theorem tw_629 : Jvm.Cond.code ({ cls := "LetHoles", name := "years", desc := "(I)I" } : Jvm.MethodName) prog_1_method_32_code (4 : Nat) (Option.some Jvm.ClassFile.FieldType.int) ∈ lw_g := List.mem_filter.mpr ⟨mj_3 (List.mem_of_getElem? (i := 149) rfl), rfl⟩
theorem tw_630 : Jvm.Cond.constantLong "LetHoles" (266 : Nat) (6364136223846793005 : Int64) ∈ lw_g := List.mem_filter.mpr ⟨mj_3 (List.mem_of_getElem? (i := 150) rfl), rfl⟩
theorem tw_631 : Jvm.Cond.constantLong "LetHoles" (268 : Nat) (1442695040888963407 : Int64) ∈ lw_g := List.mem_filter.mpr ⟨mj_3 (List.mem_of_getElem? (i := 151) rfl), rfl⟩
theorem tw_632 : Jvm.Cond.constantLong "LetHoles" (270 : Nat) (28 : Int64) ∈ lw_g := List.mem_filter.mpr ⟨mj_3 (List.mem_of_getElem? (i := 152) rfl), rfl⟩
theorem tw_633 : Jvm.Cond.methodLink "LetHolesLaw" (127 : Nat) ({ cls := "LetHoles", name := "keep", desc := "(I)I" } : Jvm.MethodName) ∈ lw_g := List.mem_filter.mpr ⟨mj_3 (List.mem_of_getElem? (i := 153) rfl), rfl⟩
theorem tw_634 : Jvm.Cond.instanceMethod ({ cls := "LetHoles", name := "keep", desc := "(I)I" } : Jvm.MethodName) ∈ lw_g := List.mem_filter.mpr ⟨mj_3 (List.mem_of_getElem? (i := 154) rfl), rfl⟩
theorem tw_635 : Jvm.Cond.selects "LetHoles" ({ cls := "LetHoles", name := "keep", desc := "(I)I" } : Jvm.MethodName) ({ cls := "LetHoles", name := "keep", desc := "(I)I" } : Jvm.MethodName) ∈ lw_g := List.mem_filter.mpr ⟨mj_3 (List.mem_of_getElem? (i := 155) rfl), rfl⟩
theorem tw_636 : Jvm.Cond.code ({ cls := "LetHoles", name := "keep", desc := "(I)I" } : Jvm.MethodName) prog_1_method_33_code (3 : Nat) (Option.some Jvm.ClassFile.FieldType.int) ∈ lw_g := List.mem_filter.mpr ⟨mj_3 (List.mem_of_getElem? (i := 156) rfl), rfl⟩
theorem tw_637 : Jvm.Cond.methodLink "LetHoles" (272 : Nat) ({ cls := "LetHoles", name := "slotAt", desc := "(I)LLetHoles$Wheel;" } : Jvm.MethodName) ∈ lw_g := List.mem_filter.mpr ⟨mj_3 (List.mem_of_getElem? (i := 157) rfl), rfl⟩
theorem tw_638 : Jvm.Cond.privateMethod ({ cls := "LetHoles", name := "slotAt", desc := "(I)LLetHoles$Wheel;" } : Jvm.MethodName) ∈ lw_tbl := mj_3 (List.mem_of_getElem? (i := 158) rfl)
theorem tw_639 : Jvm.Cond.instanceMethod ({ cls := "LetHoles", name := "slotAt", desc := "(I)LLetHoles$Wheel;" } : Jvm.MethodName) ∈ lw_g := List.mem_filter.mpr ⟨mj_3 (List.mem_of_getElem? (i := 159) rfl), rfl⟩
theorem tw_640 : Jvm.Cond.code ({ cls := "LetHoles", name := "slotAt", desc := "(I)LLetHoles$Wheel;" } : Jvm.MethodName) prog_1_method_35_code (2 : Nat) (Option.some (Jvm.ClassFile.FieldType.object "LetHoles$Wheel")) ∈ lw_g := List.mem_filter.mpr ⟨mj_3 (List.mem_of_getElem? (i := 160) rfl), rfl⟩
theorem tw_641 : Jvm.Cond.methodLink "LetHolesLaw" (131 : Nat) ({ cls := "LetHoles", name := "again", desc := "(I)I" } : Jvm.MethodName) ∈ lw_g := List.mem_filter.mpr ⟨mj_3 (List.mem_of_getElem? (i := 161) rfl), rfl⟩
theorem tw_642 : Jvm.Cond.instanceMethod ({ cls := "LetHoles", name := "again", desc := "(I)I" } : Jvm.MethodName) ∈ lw_g := List.mem_filter.mpr ⟨mj_3 (List.mem_of_getElem? (i := 162) rfl), rfl⟩
theorem tw_643 : Jvm.Cond.selects "LetHoles" ({ cls := "LetHoles", name := "again", desc := "(I)I" } : Jvm.MethodName) ({ cls := "LetHoles", name := "again", desc := "(I)I" } : Jvm.MethodName) ∈ lw_g := List.mem_filter.mpr ⟨mj_3 (List.mem_of_getElem? (i := 163) rfl), rfl⟩
theorem tw_644 : Jvm.Cond.code ({ cls := "LetHoles", name := "again", desc := "(I)I" } : Jvm.MethodName) prog_1_method_34_code (3 : Nat) (Option.some Jvm.ClassFile.FieldType.int) ∈ lw_g := List.mem_filter.mpr ⟨mj_3 (List.mem_of_getElem? (i := 164) rfl), rfl⟩
theorem tw_645 : Jvm.Cond.methodLink "LetHolesLaw" (135 : Nat) ({ cls := "LetHoles", name := "count", desc := "(I)I" } : Jvm.MethodName) ∈ lw_g := List.mem_filter.mpr ⟨mj_3 (List.mem_of_getElem? (i := 165) rfl), rfl⟩
theorem tw_646 : Jvm.Cond.instanceMethod ({ cls := "LetHoles", name := "count", desc := "(I)I" } : Jvm.MethodName) ∈ lw_g := List.mem_filter.mpr ⟨mj_3 (List.mem_of_getElem? (i := 166) rfl), rfl⟩
theorem tw_647 : Jvm.Cond.selects "LetHoles" ({ cls := "LetHoles", name := "count", desc := "(I)I" } : Jvm.MethodName) ({ cls := "LetHoles", name := "count", desc := "(I)I" } : Jvm.MethodName) ∈ lw_g := List.mem_filter.mpr ⟨mj_3 (List.mem_of_getElem? (i := 167) rfl), rfl⟩
theorem tw_648 : Jvm.Cond.code ({ cls := "LetHoles", name := "count", desc := "(I)I" } : Jvm.MethodName) prog_1_method_36_code (2 : Nat) (Option.some Jvm.ClassFile.FieldType.int) ∈ lw_g := List.mem_filter.mpr ⟨mj_3 (List.mem_of_getElem? (i := 168) rfl), rfl⟩
theorem tw_649 : Jvm.Cond.classLink "LetHolesLaw" (10 : Nat) "LetHolesModel" ∈ lw_g := List.mem_filter.mpr ⟨mj_3 (List.mem_of_getElem? (i := 169) rfl), rfl⟩
theorem tw_650 : Jvm.Cond.instantiable "LetHolesModel" (28 : Nat) ∈ lw_g := List.mem_filter.mpr ⟨mj_3 (List.mem_of_getElem? (i := 170) rfl), rfl⟩
theorem tw_651 : Jvm.Cond.methodLink "LetHolesLaw" (12 : Nat) ({ cls := "LetHolesModel", name := "<init>", desc := "()V" } : Jvm.MethodName) ∈ lw_g := List.mem_filter.mpr ⟨mj_3 (List.mem_of_getElem? (i := 171) rfl), rfl⟩
theorem tw_652 : Jvm.Cond.instanceMethod ({ cls := "LetHolesModel", name := "<init>", desc := "()V" } : Jvm.MethodName) ∈ lw_g := List.mem_filter.mpr ⟨mj_3 (List.mem_of_getElem? (i := 172) rfl), rfl⟩
theorem tw_653 : Jvm.Cond.code ({ cls := "LetHolesModel", name := "<init>", desc := "()V" } : Jvm.MethodName) prog_9_method_1_code (2 : Nat) (Option.none : Option Jvm.ClassFile.FieldType) ∈ lw_g := List.mem_filter.mpr ⟨mj_3 (List.mem_of_getElem? (i := 173) rfl), rfl⟩
theorem tw_654 : Jvm.Cond.methodLink "LetHolesModel" (1 : Nat) ({ cls := "java/lang/Object", name := "<init>", desc := "()V" } : Jvm.MethodName) ∈ lw_g := List.mem_filter.mpr ⟨mj_3 (List.mem_of_getElem? (i := 174) rfl), rfl⟩
theorem tw_655 : Jvm.Cond.fieldLink "LetHolesModel" (103 : Nat) "LetHolesModel" "owners" "I" ∈ lw_g := List.mem_filter.mpr ⟨mj_3 (List.mem_of_getElem? (i := 175) rfl), rfl⟩
theorem tw_656 : Jvm.Cond.fieldLink "LetHolesModel" (106 : Nat) "LetHolesModel" "holes" "I" ∈ lw_g := List.mem_filter.mpr ⟨mj_3 (List.mem_of_getElem? (i := 176) rfl), rfl⟩
theorem tw_657 : Jvm.Cond.fieldLink "LetHolesModel" (7 : Nat) "LetHolesModel" "ownerKind" "[I" ∈ lw_g := List.mem_filter.mpr ⟨mj_3 (List.mem_of_getElem? (i := 177) rfl), rfl⟩
theorem tw_658 : Jvm.Cond.fieldLink "LetHolesModel" (13 : Nat) "LetHolesModel" "paste" "[I" ∈ lw_g := List.mem_filter.mpr ⟨mj_3 (List.mem_of_getElem? (i := 178) rfl), rfl⟩
theorem tw_659 : Jvm.Cond.fieldLink "LetHolesModel" (16 : Nat) "LetHolesModel" "holeKind" "[I" ∈ lw_g := List.mem_filter.mpr ⟨mj_3 (List.mem_of_getElem? (i := 179) rfl), rfl⟩
theorem tw_660 : Jvm.Cond.fieldLink "LetHolesModel" (19 : Nat) "LetHolesModel" "now" "[I" ∈ lw_g := List.mem_filter.mpr ⟨mj_3 (List.mem_of_getElem? (i := 180) rfl), rfl⟩
theorem tw_661 : Jvm.Cond.fieldLink "LetHolesModel" (22 : Nat) "LetHolesModel" "readOwner" "[I" ∈ lw_g := List.mem_filter.mpr ⟨mj_3 (List.mem_of_getElem? (i := 181) rfl), rfl⟩
theorem tw_662 : Jvm.Cond.fieldLink "LetHolesModel" (25 : Nat) "LetHolesModel" "readRow" "[I" ∈ lw_g := List.mem_filter.mpr ⟨mj_3 (List.mem_of_getElem? (i := 182) rfl), rfl⟩
theorem tw_663 : Jvm.Cond.fieldLink "LetHolesModel" (28 : Nat) "LetHolesModel" "readHole" "[I" ∈ lw_g := List.mem_filter.mpr ⟨mj_3 (List.mem_of_getElem? (i := 183) rfl), rfl⟩
theorem tw_664 : Jvm.Cond.fieldLink "LetHolesModel" (78 : Nat) "LetHolesModel" "readOwners" "I" ∈ lw_g := List.mem_filter.mpr ⟨mj_3 (List.mem_of_getElem? (i := 184) rfl), rfl⟩
theorem tw_665 : Jvm.Cond.fieldLink "LetHolesModel" (81 : Nat) "LetHolesModel" "readRows" "I" ∈ lw_g := List.mem_filter.mpr ⟨mj_3 (List.mem_of_getElem? (i := 185) rfl), rfl⟩
theorem tw_666 : Jvm.Cond.fieldLink "LetHolesModel" (84 : Nat) "LetHolesModel" "readHoles" "I" ∈ lw_g := List.mem_filter.mpr ⟨mj_3 (List.mem_of_getElem? (i := 186) rfl), rfl⟩
theorem tw_667 : Jvm.Cond.fieldLink "LetHolesModel" (87 : Nat) "LetHolesModel" "readCells" "I" ∈ lw_g := List.mem_filter.mpr ⟨mj_3 (List.mem_of_getElem? (i := 187) rfl), rfl⟩
theorem tw_668 : Jvm.Cond.fieldLink "LetHolesModel" (31 : Nat) "LetHolesModel" "text" "[I" ∈ lw_g := List.mem_filter.mpr ⟨mj_3 (List.mem_of_getElem? (i := 188) rfl), rfl⟩
theorem tw_669 : Jvm.Cond.fieldLink "LetHolesModel" (62 : Nat) "LetHolesModel" "length" "I" ∈ lw_g := List.mem_filter.mpr ⟨mj_3 (List.mem_of_getElem? (i := 189) rfl), rfl⟩
theorem tw_670 : Jvm.Cond.fieldLink "LetHolesModel" (69 : Nat) "LetHolesModel" "at" "I" ∈ lw_g := List.mem_filter.mpr ⟨mj_3 (List.mem_of_getElem? (i := 190) rfl), rfl⟩
theorem tw_671 : Jvm.Cond.fieldLink "LetHolesModel" (66 : Nat) "LetHolesModel" "faultAt" "I" ∈ lw_g := List.mem_filter.mpr ⟨mj_3 (List.mem_of_getElem? (i := 191) rfl), rfl⟩
theorem tw_672 : Jvm.Cond.fieldLink "LetHolesModel" (109 : Nat) "LetHolesModel" "acts" "I" ∈ lw_g := List.mem_filter.mpr ⟨mj_3 (List.mem_of_getElem? (i := 192) rfl), rfl⟩
theorem tw_673 : Jvm.Cond.fieldLink "LetHolesModel" (169 : Nat) "LetHolesModel" "next" "I" ∈ lw_g := List.mem_filter.mpr ⟨mj_3 (List.mem_of_getElem? (i := 193) rfl), rfl⟩
theorem tw_674 : Jvm.Cond.fieldLink "LetHolesModel" (34 : Nat) "LetHolesModel" "row" "[I" ∈ lw_g := List.mem_filter.mpr ⟨mj_3 (List.mem_of_getElem? (i := 194) rfl), rfl⟩
theorem tw_675 : Jvm.Cond.fieldLink "LetHolesModel" (37 : Nat) "LetHolesModel" "gnaws" "[I" ∈ lw_g := List.mem_filter.mpr ⟨mj_3 (List.mem_of_getElem? (i := 195) rfl), rfl⟩
theorem tw_676 : Jvm.Cond.fieldLink "LetHolesModel" (224 : Nat) "LetHolesModel" "tasted" "I" ∈ lw_g := List.mem_filter.mpr ⟨mj_3 (List.mem_of_getElem? (i := 196) rfl), rfl⟩
theorem tw_677 : Jvm.Cond.fieldLink "LetHolesModel" (40 : Nat) "LetHolesModel" "tastedCell" "[I" ∈ lw_g := List.mem_filter.mpr ⟨mj_3 (List.mem_of_getElem? (i := 197) rfl), rfl⟩
theorem tw_678 : Jvm.Cond.fieldLink "LetHolesModel" (43 : Nat) "LetHolesModel" "tastedDays" "[I" ∈ lw_g := List.mem_filter.mpr ⟨mj_3 (List.mem_of_getElem? (i := 198) rfl), rfl⟩
theorem tw_679 : Jvm.Cond.fieldLink "LetHolesModel" (46 : Nat) "LetHolesModel" "tastedHole" "[I" ∈ lw_g := List.mem_filter.mpr ⟨mj_3 (List.mem_of_getElem? (i := 199) rfl), rfl⟩
theorem tw_680 : Jvm.Cond.fieldLink "LetHolesModel" (247 : Nat) "LetHolesModel" "seed" "J" ∈ lw_g := List.mem_filter.mpr ⟨mj_3 (List.mem_of_getElem? (i := 200) rfl), rfl⟩
theorem tw_681 : Jvm.Cond.fieldLink "LetHolesModel" (49 : Nat) "LetHolesModel" "isKept" "[Z" ∈ lw_g := List.mem_filter.mpr ⟨mj_3 (List.mem_of_getElem? (i := 201) rfl), rfl⟩
theorem tw_682 : Jvm.Cond.fieldLink "LetHolesModel" (53 : Nat) "LetHolesModel" "kept" "[I" ∈ lw_g := List.mem_filter.mpr ⟨mj_3 (List.mem_of_getElem? (i := 202) rfl), rfl⟩
theorem tw_683 : Jvm.Cond.lays "LetHolesModel" "LetHolesModel" "owners" "I" ∈ lw_g := List.mem_filter.mpr ⟨mj_3 (List.mem_of_getElem? (i := 203) rfl), rfl⟩
theorem tw_684 : Jvm.Cond.soleField "LetHolesModel" "owners" ∈ lw_g := List.mem_filter.mpr ⟨mj_3 (List.mem_of_getElem? (i := 204) rfl), rfl⟩
theorem tw_685 : Jvm.Cond.lays "LetHolesModel" "LetHolesModel" "holes" "I" ∈ lw_g := List.mem_filter.mpr ⟨mj_3 (List.mem_of_getElem? (i := 205) rfl), rfl⟩
theorem tw_686 : Jvm.Cond.soleField "LetHolesModel" "holes" ∈ lw_g := List.mem_filter.mpr ⟨mj_3 (List.mem_of_getElem? (i := 206) rfl), rfl⟩
theorem tw_687 : Jvm.Cond.laysFinal "LetHolesModel" "LetHolesModel" "ownerKind" "[I" ∈ lw_g := List.mem_filter.mpr ⟨mj_3 (List.mem_of_getElem? (i := 207) rfl), rfl⟩
theorem tw_688 : Jvm.Cond.soleField "LetHolesModel" "ownerKind" ∈ lw_g := List.mem_filter.mpr ⟨mj_3 (List.mem_of_getElem? (i := 208) rfl), rfl⟩
theorem tw_689 : Jvm.Cond.laysFinal "LetHolesModel" "LetHolesModel" "paste" "[I" ∈ lw_g := List.mem_filter.mpr ⟨mj_3 (List.mem_of_getElem? (i := 209) rfl), rfl⟩
theorem tw_690 : Jvm.Cond.soleField "LetHolesModel" "paste" ∈ lw_g := List.mem_filter.mpr ⟨mj_3 (List.mem_of_getElem? (i := 210) rfl), rfl⟩
theorem tw_691 : Jvm.Cond.laysFinal "LetHolesModel" "LetHolesModel" "holeKind" "[I" ∈ lw_g := List.mem_filter.mpr ⟨mj_3 (List.mem_of_getElem? (i := 211) rfl), rfl⟩
theorem tw_692 : Jvm.Cond.soleField "LetHolesModel" "holeKind" ∈ lw_g := List.mem_filter.mpr ⟨mj_3 (List.mem_of_getElem? (i := 212) rfl), rfl⟩
theorem tw_693 : Jvm.Cond.laysFinal "LetHolesModel" "LetHolesModel" "now" "[I" ∈ lw_g := List.mem_filter.mpr ⟨mj_3 (List.mem_of_getElem? (i := 213) rfl), rfl⟩
theorem tw_694 : Jvm.Cond.soleField "LetHolesModel" "now" ∈ lw_g := List.mem_filter.mpr ⟨mj_3 (List.mem_of_getElem? (i := 214) rfl), rfl⟩
theorem tw_695 : Jvm.Cond.laysFinal "LetHolesModel" "LetHolesModel" "readOwner" "[I" ∈ lw_g := List.mem_filter.mpr ⟨mj_3 (List.mem_of_getElem? (i := 215) rfl), rfl⟩
theorem tw_696 : Jvm.Cond.soleField "LetHolesModel" "readOwner" ∈ lw_g := List.mem_filter.mpr ⟨mj_3 (List.mem_of_getElem? (i := 216) rfl), rfl⟩
theorem tw_697 : Jvm.Cond.laysFinal "LetHolesModel" "LetHolesModel" "readRow" "[I" ∈ lw_g := List.mem_filter.mpr ⟨mj_3 (List.mem_of_getElem? (i := 217) rfl), rfl⟩
theorem tw_698 : Jvm.Cond.soleField "LetHolesModel" "readRow" ∈ lw_g := List.mem_filter.mpr ⟨mj_3 (List.mem_of_getElem? (i := 218) rfl), rfl⟩
theorem tw_699 : Jvm.Cond.laysFinal "LetHolesModel" "LetHolesModel" "readHole" "[I" ∈ lw_g := List.mem_filter.mpr ⟨mj_3 (List.mem_of_getElem? (i := 219) rfl), rfl⟩
theorem tw_700 : Jvm.Cond.soleField "LetHolesModel" "readHole" ∈ lw_g := List.mem_filter.mpr ⟨mj_3 (List.mem_of_getElem? (i := 220) rfl), rfl⟩
theorem tw_701 : Jvm.Cond.lays "LetHolesModel" "LetHolesModel" "readOwners" "I" ∈ lw_g := List.mem_filter.mpr ⟨mj_3 (List.mem_of_getElem? (i := 221) rfl), rfl⟩
theorem tw_702 : Jvm.Cond.soleField "LetHolesModel" "readOwners" ∈ lw_g := List.mem_filter.mpr ⟨mj_3 (List.mem_of_getElem? (i := 222) rfl), rfl⟩
theorem tw_703 : Jvm.Cond.lays "LetHolesModel" "LetHolesModel" "readRows" "I" ∈ lw_g := List.mem_filter.mpr ⟨mj_3 (List.mem_of_getElem? (i := 223) rfl), rfl⟩
theorem tw_704 : Jvm.Cond.soleField "LetHolesModel" "readRows" ∈ lw_g := List.mem_filter.mpr ⟨mj_3 (List.mem_of_getElem? (i := 224) rfl), rfl⟩
theorem tw_705 : Jvm.Cond.lays "LetHolesModel" "LetHolesModel" "readHoles" "I" ∈ lw_g := List.mem_filter.mpr ⟨mj_3 (List.mem_of_getElem? (i := 225) rfl), rfl⟩
theorem tw_706 : Jvm.Cond.soleField "LetHolesModel" "readHoles" ∈ lw_g := List.mem_filter.mpr ⟨mj_3 (List.mem_of_getElem? (i := 226) rfl), rfl⟩
theorem tw_707 : Jvm.Cond.lays "LetHolesModel" "LetHolesModel" "readCells" "I" ∈ lw_g := List.mem_filter.mpr ⟨mj_3 (List.mem_of_getElem? (i := 227) rfl), rfl⟩
theorem tw_708 : Jvm.Cond.soleField "LetHolesModel" "readCells" ∈ lw_g := List.mem_filter.mpr ⟨mj_3 (List.mem_of_getElem? (i := 228) rfl), rfl⟩
theorem tw_709 : Jvm.Cond.laysFinal "LetHolesModel" "LetHolesModel" "text" "[I" ∈ lw_g := List.mem_filter.mpr ⟨mj_3 (List.mem_of_getElem? (i := 229) rfl), rfl⟩
theorem tw_710 : Jvm.Cond.soleField "LetHolesModel" "text" ∈ lw_g := List.mem_filter.mpr ⟨mj_3 (List.mem_of_getElem? (i := 230) rfl), rfl⟩
theorem tw_711 : Jvm.Cond.lays "LetHolesModel" "LetHolesModel" "length" "I" ∈ lw_g := List.mem_filter.mpr ⟨mj_3 (List.mem_of_getElem? (i := 231) rfl), rfl⟩
theorem tw_712 : Jvm.Cond.soleField "LetHolesModel" "length" ∈ lw_g := List.mem_filter.mpr ⟨mj_3 (List.mem_of_getElem? (i := 232) rfl), rfl⟩
theorem tw_713 : Jvm.Cond.lays "LetHolesModel" "LetHolesModel" "at" "I" ∈ lw_g := List.mem_filter.mpr ⟨mj_3 (List.mem_of_getElem? (i := 233) rfl), rfl⟩
theorem tw_714 : Jvm.Cond.soleField "LetHolesModel" "at" ∈ lw_g := List.mem_filter.mpr ⟨mj_3 (List.mem_of_getElem? (i := 234) rfl), rfl⟩
theorem tw_715 : Jvm.Cond.lays "LetHolesModel" "LetHolesModel" "faultAt" "I" ∈ lw_g := List.mem_filter.mpr ⟨mj_3 (List.mem_of_getElem? (i := 235) rfl), rfl⟩
theorem tw_716 : Jvm.Cond.soleField "LetHolesModel" "faultAt" ∈ lw_g := List.mem_filter.mpr ⟨mj_3 (List.mem_of_getElem? (i := 236) rfl), rfl⟩
theorem tw_717 : Jvm.Cond.lays "LetHolesModel" "LetHolesModel" "acts" "I" ∈ lw_g := List.mem_filter.mpr ⟨mj_3 (List.mem_of_getElem? (i := 237) rfl), rfl⟩
theorem tw_718 : Jvm.Cond.soleField "LetHolesModel" "acts" ∈ lw_g := List.mem_filter.mpr ⟨mj_3 (List.mem_of_getElem? (i := 238) rfl), rfl⟩
theorem tw_719 : Jvm.Cond.lays "LetHolesModel" "LetHolesModel" "next" "I" ∈ lw_g := List.mem_filter.mpr ⟨mj_3 (List.mem_of_getElem? (i := 239) rfl), rfl⟩
theorem tw_720 : Jvm.Cond.soleField "LetHolesModel" "next" ∈ lw_g := List.mem_filter.mpr ⟨mj_4 (List.mem_of_getElem? (i := 0) rfl), rfl⟩
theorem tw_721 : Jvm.Cond.laysFinal "LetHolesModel" "LetHolesModel" "row" "[I" ∈ lw_g := List.mem_filter.mpr ⟨mj_4 (List.mem_of_getElem? (i := 1) rfl), rfl⟩
theorem tw_722 : Jvm.Cond.soleField "LetHolesModel" "row" ∈ lw_g := List.mem_filter.mpr ⟨mj_4 (List.mem_of_getElem? (i := 2) rfl), rfl⟩
theorem tw_723 : Jvm.Cond.laysFinal "LetHolesModel" "LetHolesModel" "gnaws" "[I" ∈ lw_g := List.mem_filter.mpr ⟨mj_4 (List.mem_of_getElem? (i := 3) rfl), rfl⟩
theorem tw_724 : Jvm.Cond.soleField "LetHolesModel" "gnaws" ∈ lw_g := List.mem_filter.mpr ⟨mj_4 (List.mem_of_getElem? (i := 4) rfl), rfl⟩
theorem tw_725 : Jvm.Cond.lays "LetHolesModel" "LetHolesModel" "tasted" "I" ∈ lw_g := List.mem_filter.mpr ⟨mj_4 (List.mem_of_getElem? (i := 5) rfl), rfl⟩
theorem tw_726 : Jvm.Cond.soleField "LetHolesModel" "tasted" ∈ lw_g := List.mem_filter.mpr ⟨mj_4 (List.mem_of_getElem? (i := 6) rfl), rfl⟩
theorem tw_727 : Jvm.Cond.laysFinal "LetHolesModel" "LetHolesModel" "tastedCell" "[I" ∈ lw_g := List.mem_filter.mpr ⟨mj_4 (List.mem_of_getElem? (i := 7) rfl), rfl⟩
theorem tw_728 : Jvm.Cond.soleField "LetHolesModel" "tastedCell" ∈ lw_g := List.mem_filter.mpr ⟨mj_4 (List.mem_of_getElem? (i := 8) rfl), rfl⟩
theorem tw_729 : Jvm.Cond.laysFinal "LetHolesModel" "LetHolesModel" "tastedDays" "[I" ∈ lw_g := List.mem_filter.mpr ⟨mj_4 (List.mem_of_getElem? (i := 9) rfl), rfl⟩
theorem tw_730 : Jvm.Cond.soleField "LetHolesModel" "tastedDays" ∈ lw_g := List.mem_filter.mpr ⟨mj_4 (List.mem_of_getElem? (i := 10) rfl), rfl⟩
theorem tw_731 : Jvm.Cond.laysFinal "LetHolesModel" "LetHolesModel" "tastedHole" "[I" ∈ lw_g := List.mem_filter.mpr ⟨mj_4 (List.mem_of_getElem? (i := 11) rfl), rfl⟩
theorem tw_732 : Jvm.Cond.soleField "LetHolesModel" "tastedHole" ∈ lw_g := List.mem_filter.mpr ⟨mj_4 (List.mem_of_getElem? (i := 12) rfl), rfl⟩
theorem tw_733 : Jvm.Cond.lays "LetHolesModel" "LetHolesModel" "seed" "J" ∈ lw_g := List.mem_filter.mpr ⟨mj_4 (List.mem_of_getElem? (i := 13) rfl), rfl⟩
theorem tw_734 : Jvm.Cond.soleField "LetHolesModel" "seed" ∈ lw_g := List.mem_filter.mpr ⟨mj_4 (List.mem_of_getElem? (i := 14) rfl), rfl⟩
theorem tw_735 : Jvm.Cond.laysFinal "LetHolesModel" "LetHolesModel" "isKept" "[Z" ∈ lw_g := List.mem_filter.mpr ⟨mj_4 (List.mem_of_getElem? (i := 15) rfl), rfl⟩
theorem tw_736 : Jvm.Cond.soleField "LetHolesModel" "isKept" ∈ lw_g := List.mem_filter.mpr ⟨mj_4 (List.mem_of_getElem? (i := 16) rfl), rfl⟩
theorem tw_737 : Jvm.Cond.laysFinal "LetHolesModel" "LetHolesModel" "kept" "[I" ∈ lw_g := List.mem_filter.mpr ⟨mj_4 (List.mem_of_getElem? (i := 17) rfl), rfl⟩
theorem tw_738 : Jvm.Cond.soleField "LetHolesModel" "kept" ∈ lw_g := List.mem_filter.mpr ⟨mj_4 (List.mem_of_getElem? (i := 18) rfl), rfl⟩
theorem tw_739 : Jvm.Cond.superclass "LetHolesModel" "java/lang/Object" ∈ lw_g := List.mem_filter.mpr ⟨mj_4 (List.mem_of_getElem? (i := 19) rfl), rfl⟩
theorem tw_740 : Jvm.Cond.methodLink "LetHolesLaw" (17 : Nat) ({ cls := "LetHolesModel", name := "write", desc := "(I)I" } : Jvm.MethodName) ∈ lw_g := List.mem_filter.mpr ⟨mj_4 (List.mem_of_getElem? (i := 20) rfl), rfl⟩
theorem tw_741 : Jvm.Cond.instanceMethod ({ cls := "LetHolesModel", name := "write", desc := "(I)I" } : Jvm.MethodName) ∈ lw_g := List.mem_filter.mpr ⟨mj_4 (List.mem_of_getElem? (i := 21) rfl), rfl⟩
theorem tw_742 : Jvm.Cond.selects "LetHolesModel" ({ cls := "LetHolesModel", name := "write", desc := "(I)I" } : Jvm.MethodName) ({ cls := "LetHolesModel", name := "write", desc := "(I)I" } : Jvm.MethodName) ∈ lw_g := List.mem_filter.mpr ⟨mj_4 (List.mem_of_getElem? (i := 22) rfl), rfl⟩
theorem tw_743 : Jvm.Cond.code ({ cls := "LetHolesModel", name := "write", desc := "(I)I" } : Jvm.MethodName) prog_9_method_6_code (2 : Nat) (Option.some Jvm.ClassFile.FieldType.int) ∈ lw_g := List.mem_filter.mpr ⟨mj_4 (List.mem_of_getElem? (i := 23) rfl), rfl⟩
theorem tw_744 : Jvm.Cond.constantLong "LetHolesModel" (56 : Nat) (255 : Int64) ∈ lw_g := List.mem_filter.mpr ⟨mj_4 (List.mem_of_getElem? (i := 24) rfl), rfl⟩
theorem tw_745 : Jvm.Cond.methodLink "LetHolesModel" (58 : Nat) ({ cls := "LetHolesModel", name := "in", desc := "(JJJ)Z" } : Jvm.MethodName) ∈ lw_g := List.mem_filter.mpr ⟨mj_4 (List.mem_of_getElem? (i := 25) rfl), rfl⟩
theorem tw_746 : Jvm.Cond.static ({ cls := "LetHolesModel", name := "in", desc := "(JJJ)Z" } : Jvm.MethodName) ∈ lw_g := List.mem_filter.mpr ⟨mj_4 (List.mem_of_getElem? (i := 26) rfl), rfl⟩
theorem tw_747 : Jvm.Cond.code ({ cls := "LetHolesModel", name := "in", desc := "(JJJ)Z" } : Jvm.MethodName) prog_9_method_3_code (6 : Nat) (Option.some Jvm.ClassFile.FieldType.boolean) ∈ lw_g := List.mem_filter.mpr ⟨mj_4 (List.mem_of_getElem? (i := 27) rfl), rfl⟩
theorem tw_748 : Jvm.Cond.methodLink "LetHolesLaw" (22 : Nat) ({ cls := "LetHolesModel", name := "wipe", desc := "()I" } : Jvm.MethodName) ∈ lw_g := List.mem_filter.mpr ⟨mj_4 (List.mem_of_getElem? (i := 28) rfl), rfl⟩
theorem tw_749 : Jvm.Cond.instanceMethod ({ cls := "LetHolesModel", name := "wipe", desc := "()I" } : Jvm.MethodName) ∈ lw_g := List.mem_filter.mpr ⟨mj_4 (List.mem_of_getElem? (i := 29) rfl), rfl⟩
theorem tw_750 : Jvm.Cond.selects "LetHolesModel" ({ cls := "LetHolesModel", name := "wipe", desc := "()I" } : Jvm.MethodName) ({ cls := "LetHolesModel", name := "wipe", desc := "()I" } : Jvm.MethodName) ∈ lw_g := List.mem_filter.mpr ⟨mj_4 (List.mem_of_getElem? (i := 30) rfl), rfl⟩
theorem tw_751 : Jvm.Cond.code ({ cls := "LetHolesModel", name := "wipe", desc := "()I" } : Jvm.MethodName) prog_9_method_7_code (2 : Nat) (Option.some Jvm.ClassFile.FieldType.int) ∈ lw_g := List.mem_filter.mpr ⟨mj_4 (List.mem_of_getElem? (i := 31) rfl), rfl⟩
theorem tw_752 : Jvm.Cond.methodLink "LetHolesLaw" (26 : Nat) ({ cls := "LetHolesModel", name := "fault", desc := "()I" } : Jvm.MethodName) ∈ lw_g := List.mem_filter.mpr ⟨mj_4 (List.mem_of_getElem? (i := 32) rfl), rfl⟩
theorem tw_753 : Jvm.Cond.instanceMethod ({ cls := "LetHolesModel", name := "fault", desc := "()I" } : Jvm.MethodName) ∈ lw_g := List.mem_filter.mpr ⟨mj_4 (List.mem_of_getElem? (i := 33) rfl), rfl⟩
theorem tw_754 : Jvm.Cond.selects "LetHolesModel" ({ cls := "LetHolesModel", name := "fault", desc := "()I" } : Jvm.MethodName) ({ cls := "LetHolesModel", name := "fault", desc := "()I" } : Jvm.MethodName) ∈ lw_g := List.mem_filter.mpr ⟨mj_4 (List.mem_of_getElem? (i := 34) rfl), rfl⟩
theorem tw_755 : Jvm.Cond.code ({ cls := "LetHolesModel", name := "fault", desc := "()I" } : Jvm.MethodName) prog_9_method_11_code (1 : Nat) (Option.some Jvm.ClassFile.FieldType.int) ∈ lw_g := List.mem_filter.mpr ⟨mj_4 (List.mem_of_getElem? (i := 35) rfl), rfl⟩
theorem tw_756 : Jvm.Cond.methodLink "LetHolesModel" (99 : Nat) ({ cls := "LetHolesModel", name := "readText", desc := "()I" } : Jvm.MethodName) ∈ lw_g := List.mem_filter.mpr ⟨mj_4 (List.mem_of_getElem? (i := 36) rfl), rfl⟩
theorem tw_757 : Jvm.Cond.privateMethod ({ cls := "LetHolesModel", name := "readText", desc := "()I" } : Jvm.MethodName) ∈ lw_tbl := mj_4 (List.mem_of_getElem? (i := 37) rfl)
theorem tw_758 : Jvm.Cond.instanceMethod ({ cls := "LetHolesModel", name := "readText", desc := "()I" } : Jvm.MethodName) ∈ lw_g := List.mem_filter.mpr ⟨mj_4 (List.mem_of_getElem? (i := 38) rfl), rfl⟩
theorem tw_759 : Jvm.Cond.code ({ cls := "LetHolesModel", name := "readText", desc := "()I" } : Jvm.MethodName) prog_9_method_9_code (2 : Nat) (Option.some Jvm.ClassFile.FieldType.int) ∈ lw_g := List.mem_filter.mpr ⟨mj_4 (List.mem_of_getElem? (i := 39) rfl), rfl⟩
theorem tw_760 : Jvm.Cond.methodLink "LetHolesModel" (90 : Nat) ({ cls := "LetHolesModel", name := "readPart", desc := "(I)V" } : Jvm.MethodName) ∈ lw_g := List.mem_filter.mpr ⟨mj_4 (List.mem_of_getElem? (i := 40) rfl), rfl⟩
theorem tw_761 : Jvm.Cond.privateMethod ({ cls := "LetHolesModel", name := "readPart", desc := "(I)V" } : Jvm.MethodName) ∈ lw_tbl := mj_4 (List.mem_of_getElem? (i := 41) rfl)
theorem tw_762 : Jvm.Cond.instanceMethod ({ cls := "LetHolesModel", name := "readPart", desc := "(I)V" } : Jvm.MethodName) ∈ lw_g := List.mem_filter.mpr ⟨mj_4 (List.mem_of_getElem? (i := 42) rfl), rfl⟩
theorem tw_763 : Jvm.Cond.code ({ cls := "LetHolesModel", name := "readPart", desc := "(I)V" } : Jvm.MethodName) prog_9_method_10_code (5 : Nat) (Option.none : Option Jvm.ClassFile.FieldType) ∈ lw_g := List.mem_filter.mpr ⟨mj_4 (List.mem_of_getElem? (i := 43) rfl), rfl⟩
theorem tw_764 : Jvm.Cond.methodLink "LetHolesModel" (94 : Nat) ({ cls := "LetHolesModel", name := "told", desc := "(II)I" } : Jvm.MethodName) ∈ lw_g := List.mem_filter.mpr ⟨mj_4 (List.mem_of_getElem? (i := 44) rfl), rfl⟩
theorem tw_765 : Jvm.Cond.privateMethod ({ cls := "LetHolesModel", name := "told", desc := "(II)I" } : Jvm.MethodName) ∈ lw_tbl := mj_4 (List.mem_of_getElem? (i := 45) rfl)
theorem tw_766 : Jvm.Cond.instanceMethod ({ cls := "LetHolesModel", name := "told", desc := "(II)I" } : Jvm.MethodName) ∈ lw_g := List.mem_filter.mpr ⟨mj_4 (List.mem_of_getElem? (i := 46) rfl), rfl⟩
theorem tw_767 : Jvm.Cond.code ({ cls := "LetHolesModel", name := "told", desc := "(II)I" } : Jvm.MethodName) prog_9_method_8_code (5 : Nat) (Option.some Jvm.ClassFile.FieldType.int) ∈ lw_g := List.mem_filter.mpr ⟨mj_4 (List.mem_of_getElem? (i := 47) rfl), rfl⟩
theorem tw_768 : Jvm.Cond.constantLong "LetHolesModel" (72 : Nat) (19 : Int64) ∈ lw_g := List.mem_filter.mpr ⟨mj_4 (List.mem_of_getElem? (i := 48) rfl), rfl⟩
theorem tw_769 : Jvm.Cond.methodLink "LetHolesModel" (74 : Nat) ({ cls := "LetHolesModel", name := "has", desc := "(II)Z" } : Jvm.MethodName) ∈ lw_g := List.mem_filter.mpr ⟨mj_4 (List.mem_of_getElem? (i := 49) rfl), rfl⟩
theorem tw_770 : Jvm.Cond.static ({ cls := "LetHolesModel", name := "has", desc := "(II)Z" } : Jvm.MethodName) ∈ lw_g := List.mem_filter.mpr ⟨mj_4 (List.mem_of_getElem? (i := 50) rfl), rfl⟩
theorem tw_771 : Jvm.Cond.code ({ cls := "LetHolesModel", name := "has", desc := "(II)Z" } : Jvm.MethodName) prog_9_method_4_code (2 : Nat) (Option.some Jvm.ClassFile.FieldType.boolean) ∈ lw_g := List.mem_filter.mpr ⟨mj_4 (List.mem_of_getElem? (i := 51) rfl), rfl⟩
theorem tw_772 : Jvm.Cond.constant "LetHolesModel" (98 : Nat) (1048575 : Int32) ∈ lw_g := List.mem_filter.mpr ⟨mj_4 (List.mem_of_getElem? (i := 52) rfl), rfl⟩
theorem tw_773 : Jvm.Cond.methodLink "LetHolesLaw" (30 : Nat) ({ cls := "LetHolesModel", name := "dairy", desc := "()I" } : Jvm.MethodName) ∈ lw_g := List.mem_filter.mpr ⟨mj_4 (List.mem_of_getElem? (i := 53) rfl), rfl⟩
theorem tw_774 : Jvm.Cond.instanceMethod ({ cls := "LetHolesModel", name := "dairy", desc := "()I" } : Jvm.MethodName) ∈ lw_g := List.mem_filter.mpr ⟨mj_4 (List.mem_of_getElem? (i := 54) rfl), rfl⟩
theorem tw_775 : Jvm.Cond.selects "LetHolesModel" ({ cls := "LetHolesModel", name := "dairy", desc := "()I" } : Jvm.MethodName) ({ cls := "LetHolesModel", name := "dairy", desc := "()I" } : Jvm.MethodName) ∈ lw_g := List.mem_filter.mpr ⟨mj_4 (List.mem_of_getElem? (i := 55) rfl), rfl⟩
theorem tw_776 : Jvm.Cond.code ({ cls := "LetHolesModel", name := "dairy", desc := "()I" } : Jvm.MethodName) prog_9_method_12_code (2 : Nat) (Option.some Jvm.ClassFile.FieldType.int) ∈ lw_g := List.mem_filter.mpr ⟨mj_4 (List.mem_of_getElem? (i := 56) rfl), rfl⟩
theorem tw_777 : Jvm.Cond.methodLink "LetHolesLaw" (35 : Nat) ({ cls := "LetHolesModel", name := "owner", desc := "(II)I" } : Jvm.MethodName) ∈ lw_g := List.mem_filter.mpr ⟨mj_4 (List.mem_of_getElem? (i := 57) rfl), rfl⟩
theorem tw_778 : Jvm.Cond.instanceMethod ({ cls := "LetHolesModel", name := "owner", desc := "(II)I" } : Jvm.MethodName) ∈ lw_g := List.mem_filter.mpr ⟨mj_4 (List.mem_of_getElem? (i := 58) rfl), rfl⟩
theorem tw_779 : Jvm.Cond.selects "LetHolesModel" ({ cls := "LetHolesModel", name := "owner", desc := "(II)I" } : Jvm.MethodName) ({ cls := "LetHolesModel", name := "owner", desc := "(II)I" } : Jvm.MethodName) ∈ lw_g := List.mem_filter.mpr ⟨mj_4 (List.mem_of_getElem? (i := 59) rfl), rfl⟩
theorem tw_780 : Jvm.Cond.code ({ cls := "LetHolesModel", name := "owner", desc := "(II)I" } : Jvm.MethodName) prog_9_method_31_code (6 : Nat) (Option.some Jvm.ClassFile.FieldType.int) ∈ lw_g := List.mem_filter.mpr ⟨mj_4 (List.mem_of_getElem? (i := 60) rfl), rfl⟩
theorem tw_781 : Jvm.Cond.methodLink "LetHolesModel" (157 : Nat) ({ cls := "LetHolesModel", name := "isOwner", desc := "(I)Z" } : Jvm.MethodName) ∈ lw_g := List.mem_filter.mpr ⟨mj_4 (List.mem_of_getElem? (i := 61) rfl), rfl⟩
theorem tw_782 : Jvm.Cond.privateMethod ({ cls := "LetHolesModel", name := "isOwner", desc := "(I)Z" } : Jvm.MethodName) ∈ lw_tbl := mj_4 (List.mem_of_getElem? (i := 62) rfl)
theorem tw_783 : Jvm.Cond.instanceMethod ({ cls := "LetHolesModel", name := "isOwner", desc := "(I)Z" } : Jvm.MethodName) ∈ lw_g := List.mem_filter.mpr ⟨mj_4 (List.mem_of_getElem? (i := 63) rfl), rfl⟩
theorem tw_784 : Jvm.Cond.code ({ cls := "LetHolesModel", name := "isOwner", desc := "(I)Z" } : Jvm.MethodName) prog_9_method_13_code (2 : Nat) (Option.some Jvm.ClassFile.FieldType.boolean) ∈ lw_g := List.mem_filter.mpr ⟨mj_4 (List.mem_of_getElem? (i := 64) rfl), rfl⟩
theorem tw_785 : Jvm.Cond.methodLink "LetHolesModel" (160 : Nat) ({ cls := "LetHolesModel", name := "estate", desc := "(I)I" } : Jvm.MethodName) ∈ lw_g := List.mem_filter.mpr ⟨mj_4 (List.mem_of_getElem? (i := 65) rfl), rfl⟩
theorem tw_786 : Jvm.Cond.privateMethod ({ cls := "LetHolesModel", name := "estate", desc := "(I)I" } : Jvm.MethodName) ∈ lw_tbl := mj_4 (List.mem_of_getElem? (i := 66) rfl)
theorem tw_787 : Jvm.Cond.instanceMethod ({ cls := "LetHolesModel", name := "estate", desc := "(I)I" } : Jvm.MethodName) ∈ lw_g := List.mem_filter.mpr ⟨mj_4 (List.mem_of_getElem? (i := 67) rfl), rfl⟩
theorem tw_788 : Jvm.Cond.code ({ cls := "LetHolesModel", name := "estate", desc := "(I)I" } : Jvm.MethodName) prog_9_method_30_code (5 : Nat) (Option.some Jvm.ClassFile.FieldType.int) ∈ lw_g := List.mem_filter.mpr ⟨mj_4 (List.mem_of_getElem? (i := 68) rfl), rfl⟩
theorem tw_789 : Jvm.Cond.methodLink "LetHolesModel" (154 : Nat) ({ cls := "LetHolesModel", name := "ownerOf", desc := "(II)I" } : Jvm.MethodName) ∈ lw_g := List.mem_filter.mpr ⟨mj_4 (List.mem_of_getElem? (i := 69) rfl), rfl⟩
theorem tw_790 : Jvm.Cond.privateMethod ({ cls := "LetHolesModel", name := "ownerOf", desc := "(II)I" } : Jvm.MethodName) ∈ lw_tbl := mj_4 (List.mem_of_getElem? (i := 70) rfl)
theorem tw_791 : Jvm.Cond.instanceMethod ({ cls := "LetHolesModel", name := "ownerOf", desc := "(II)I" } : Jvm.MethodName) ∈ lw_g := List.mem_filter.mpr ⟨mj_4 (List.mem_of_getElem? (i := 71) rfl), rfl⟩
theorem tw_792 : Jvm.Cond.code ({ cls := "LetHolesModel", name := "ownerOf", desc := "(II)I" } : Jvm.MethodName) prog_9_method_18_code (4 : Nat) (Option.some Jvm.ClassFile.FieldType.int) ∈ lw_g := List.mem_filter.mpr ⟨mj_4 (List.mem_of_getElem? (i := 72) rfl), rfl⟩
theorem tw_793 : Jvm.Cond.methodLink "LetHolesModel" (137 : Nat) ({ cls := "LetHolesModel", name := "ones", desc := "(I)I" } : Jvm.MethodName) ∈ lw_g := List.mem_filter.mpr ⟨mj_4 (List.mem_of_getElem? (i := 73) rfl), rfl⟩
theorem tw_794 : Jvm.Cond.static ({ cls := "LetHolesModel", name := "ones", desc := "(I)I" } : Jvm.MethodName) ∈ lw_g := List.mem_filter.mpr ⟨mj_4 (List.mem_of_getElem? (i := 74) rfl), rfl⟩
theorem tw_795 : Jvm.Cond.code ({ cls := "LetHolesModel", name := "ones", desc := "(I)I" } : Jvm.MethodName) prog_9_method_5_code (3 : Nat) (Option.some Jvm.ClassFile.FieldType.int) ∈ lw_g := List.mem_filter.mpr ⟨mj_4 (List.mem_of_getElem? (i := 75) rfl), rfl⟩
theorem tw_796 : Jvm.Cond.methodLink "LetHolesLaw" (39 : Nat) ({ cls := "LetHolesModel", name := "hole", desc := "(II)I" } : Jvm.MethodName) ∈ lw_g := List.mem_filter.mpr ⟨mj_4 (List.mem_of_getElem? (i := 76) rfl), rfl⟩
theorem tw_797 : Jvm.Cond.instanceMethod ({ cls := "LetHolesModel", name := "hole", desc := "(II)I" } : Jvm.MethodName) ∈ lw_g := List.mem_filter.mpr ⟨mj_4 (List.mem_of_getElem? (i := 77) rfl), rfl⟩
theorem tw_798 : Jvm.Cond.selects "LetHolesModel" ({ cls := "LetHolesModel", name := "hole", desc := "(II)I" } : Jvm.MethodName) ({ cls := "LetHolesModel", name := "hole", desc := "(II)I" } : Jvm.MethodName) ∈ lw_g := List.mem_filter.mpr ⟨mj_4 (List.mem_of_getElem? (i := 78) rfl), rfl⟩
theorem tw_799 : Jvm.Cond.code ({ cls := "LetHolesModel", name := "hole", desc := "(II)I" } : Jvm.MethodName) prog_9_method_32_code (3 : Nat) (Option.some Jvm.ClassFile.FieldType.int) ∈ lw_g := List.mem_filter.mpr ⟨mj_4 (List.mem_of_getElem? (i := 79) rfl), rfl⟩
theorem tw_800 : Jvm.Cond.methodLink "LetHolesModel" (163 : Nat) ({ cls := "LetHolesModel", name := "isHole", desc := "(I)Z" } : Jvm.MethodName) ∈ lw_g := List.mem_filter.mpr ⟨mj_4 (List.mem_of_getElem? (i := 80) rfl), rfl⟩
theorem tw_801 : Jvm.Cond.privateMethod ({ cls := "LetHolesModel", name := "isHole", desc := "(I)Z" } : Jvm.MethodName) ∈ lw_tbl := mj_4 (List.mem_of_getElem? (i := 81) rfl)
theorem tw_802 : Jvm.Cond.instanceMethod ({ cls := "LetHolesModel", name := "isHole", desc := "(I)Z" } : Jvm.MethodName) ∈ lw_g := List.mem_filter.mpr ⟨mj_4 (List.mem_of_getElem? (i := 82) rfl), rfl⟩
theorem tw_803 : Jvm.Cond.code ({ cls := "LetHolesModel", name := "isHole", desc := "(I)Z" } : Jvm.MethodName) prog_9_method_14_code (2 : Nat) (Option.some Jvm.ClassFile.FieldType.boolean) ∈ lw_g := List.mem_filter.mpr ⟨mj_4 (List.mem_of_getElem? (i := 83) rfl), rfl⟩
theorem tw_804 : Jvm.Cond.methodLink "LetHolesModel" (119 : Nat) ({ cls := "LetHolesModel", name := "of", desc := "(II)I" } : Jvm.MethodName) ∈ lw_g := List.mem_filter.mpr ⟨mj_4 (List.mem_of_getElem? (i := 84) rfl), rfl⟩
theorem tw_805 : Jvm.Cond.privateMethod ({ cls := "LetHolesModel", name := "of", desc := "(II)I" } : Jvm.MethodName) ∈ lw_tbl := mj_4 (List.mem_of_getElem? (i := 85) rfl)
theorem tw_806 : Jvm.Cond.instanceMethod ({ cls := "LetHolesModel", name := "of", desc := "(II)I" } : Jvm.MethodName) ∈ lw_g := List.mem_filter.mpr ⟨mj_4 (List.mem_of_getElem? (i := 86) rfl), rfl⟩
theorem tw_807 : Jvm.Cond.code ({ cls := "LetHolesModel", name := "of", desc := "(II)I" } : Jvm.MethodName) prog_9_method_16_code (5 : Nat) (Option.some Jvm.ClassFile.FieldType.int) ∈ lw_g := List.mem_filter.mpr ⟨mj_4 (List.mem_of_getElem? (i := 87) rfl), rfl⟩
theorem tw_808 : Jvm.Cond.methodLink "LetHolesLaw" (43 : Nat) ({ cls := "LetHolesModel", name := "cell", desc := "(II)I" } : Jvm.MethodName) ∈ lw_g := List.mem_filter.mpr ⟨mj_4 (List.mem_of_getElem? (i := 88) rfl), rfl⟩
theorem tw_809 : Jvm.Cond.instanceMethod ({ cls := "LetHolesModel", name := "cell", desc := "(II)I" } : Jvm.MethodName) ∈ lw_g := List.mem_filter.mpr ⟨mj_4 (List.mem_of_getElem? (i := 89) rfl), rfl⟩
theorem tw_810 : Jvm.Cond.selects "LetHolesModel" ({ cls := "LetHolesModel", name := "cell", desc := "(II)I" } : Jvm.MethodName) ({ cls := "LetHolesModel", name := "cell", desc := "(II)I" } : Jvm.MethodName) ∈ lw_g := List.mem_filter.mpr ⟨mj_4 (List.mem_of_getElem? (i := 90) rfl), rfl⟩
theorem tw_811 : Jvm.Cond.code ({ cls := "LetHolesModel", name := "cell", desc := "(II)I" } : Jvm.MethodName) prog_9_method_33_code (4 : Nat) (Option.some Jvm.ClassFile.FieldType.int) ∈ lw_g := List.mem_filter.mpr ⟨mj_4 (List.mem_of_getElem? (i := 91) rfl), rfl⟩
theorem tw_812 : Jvm.Cond.methodLink "LetHolesModel" (166 : Nat) ({ cls := "LetHolesModel", name := "isCell", desc := "(I)Z" } : Jvm.MethodName) ∈ lw_g := List.mem_filter.mpr ⟨mj_4 (List.mem_of_getElem? (i := 92) rfl), rfl⟩
theorem tw_813 : Jvm.Cond.static ({ cls := "LetHolesModel", name := "isCell", desc := "(I)Z" } : Jvm.MethodName) ∈ lw_g := List.mem_filter.mpr ⟨mj_4 (List.mem_of_getElem? (i := 93) rfl), rfl⟩
theorem tw_814 : Jvm.Cond.code ({ cls := "LetHolesModel", name := "isCell", desc := "(I)Z" } : Jvm.MethodName) prog_9_method_15_code (1 : Nat) (Option.some Jvm.ClassFile.FieldType.boolean) ∈ lw_g := List.mem_filter.mpr ⟨mj_4 (List.mem_of_getElem? (i := 94) rfl), rfl⟩
theorem tw_815 : Jvm.Cond.methodLink "LetHolesLaw" (47 : Nat) ({ cls := "LetHolesModel", name := "day", desc := "()I" } : Jvm.MethodName) ∈ lw_g := List.mem_filter.mpr ⟨mj_4 (List.mem_of_getElem? (i := 95) rfl), rfl⟩
theorem tw_816 : Jvm.Cond.instanceMethod ({ cls := "LetHolesModel", name := "day", desc := "()I" } : Jvm.MethodName) ∈ lw_g := List.mem_filter.mpr ⟨mj_4 (List.mem_of_getElem? (i := 96) rfl), rfl⟩
theorem tw_817 : Jvm.Cond.selects "LetHolesModel" ({ cls := "LetHolesModel", name := "day", desc := "()I" } : Jvm.MethodName) ({ cls := "LetHolesModel", name := "day", desc := "()I" } : Jvm.MethodName) ∈ lw_g := List.mem_filter.mpr ⟨mj_4 (List.mem_of_getElem? (i := 97) rfl), rfl⟩
theorem tw_818 : Jvm.Cond.code ({ cls := "LetHolesModel", name := "day", desc := "()I" } : Jvm.MethodName) prog_9_method_35_code (1 : Nat) (Option.some Jvm.ClassFile.FieldType.int) ∈ lw_g := List.mem_filter.mpr ⟨mj_4 (List.mem_of_getElem? (i := 98) rfl), rfl⟩
theorem tw_819 : Jvm.Cond.methodLink "LetHolesModel" (172 : Nat) ({ cls := "LetHolesModel", name := "keepAct", desc := "()V" } : Jvm.MethodName) ∈ lw_g := List.mem_filter.mpr ⟨mj_4 (List.mem_of_getElem? (i := 99) rfl), rfl⟩
theorem tw_820 : Jvm.Cond.privateMethod ({ cls := "LetHolesModel", name := "keepAct", desc := "()V" } : Jvm.MethodName) ∈ lw_tbl := mj_4 (List.mem_of_getElem? (i := 100) rfl)
theorem tw_821 : Jvm.Cond.instanceMethod ({ cls := "LetHolesModel", name := "keepAct", desc := "()V" } : Jvm.MethodName) ∈ lw_g := List.mem_filter.mpr ⟨mj_4 (List.mem_of_getElem? (i := 101) rfl), rfl⟩
theorem tw_822 : Jvm.Cond.code ({ cls := "LetHolesModel", name := "keepAct", desc := "()V" } : Jvm.MethodName) prog_9_method_34_code (2 : Nat) (Option.none : Option Jvm.ClassFile.FieldType) ∈ lw_g := List.mem_filter.mpr ⟨mj_4 (List.mem_of_getElem? (i := 102) rfl), rfl⟩
theorem tw_823 : Jvm.Cond.methodLink "LetHolesModel" (175 : Nat) ({ cls := "LetHolesModel", name := "passOn", desc := "(I)I" } : Jvm.MethodName) ∈ lw_g := List.mem_filter.mpr ⟨mj_4 (List.mem_of_getElem? (i := 103) rfl), rfl⟩
theorem tw_824 : Jvm.Cond.privateMethod ({ cls := "LetHolesModel", name := "passOn", desc := "(I)I" } : Jvm.MethodName) ∈ lw_tbl := mj_4 (List.mem_of_getElem? (i := 104) rfl)
theorem tw_825 : Jvm.Cond.instanceMethod ({ cls := "LetHolesModel", name := "passOn", desc := "(I)I" } : Jvm.MethodName) ∈ lw_g := List.mem_filter.mpr ⟨mj_4 (List.mem_of_getElem? (i := 105) rfl), rfl⟩
theorem tw_826 : Jvm.Cond.code ({ cls := "LetHolesModel", name := "passOn", desc := "(I)I" } : Jvm.MethodName) prog_9_method_28_code (7 : Nat) (Option.some Jvm.ClassFile.FieldType.int) ∈ lw_g := List.mem_filter.mpr ⟨mj_4 (List.mem_of_getElem? (i := 106) rfl), rfl⟩
theorem tw_827 : Jvm.Cond.methodLink "LetHolesModel" (148 : Nat) ({ cls := "LetHolesModel", name := "grow", desc := "(II)V" } : Jvm.MethodName) ∈ lw_g := List.mem_filter.mpr ⟨mj_4 (List.mem_of_getElem? (i := 107) rfl), rfl⟩
theorem tw_828 : Jvm.Cond.privateMethod ({ cls := "LetHolesModel", name := "grow", desc := "(II)V" } : Jvm.MethodName) ∈ lw_tbl := mj_4 (List.mem_of_getElem? (i := 108) rfl)
theorem tw_829 : Jvm.Cond.instanceMethod ({ cls := "LetHolesModel", name := "grow", desc := "(II)V" } : Jvm.MethodName) ∈ lw_g := List.mem_filter.mpr ⟨mj_4 (List.mem_of_getElem? (i := 109) rfl), rfl⟩
theorem tw_830 : Jvm.Cond.code ({ cls := "LetHolesModel", name := "grow", desc := "(II)V" } : Jvm.MethodName) prog_9_method_24_code (6 : Nat) (Option.none : Option Jvm.ClassFile.FieldType) ∈ lw_g := List.mem_filter.mpr ⟨mj_4 (List.mem_of_getElem? (i := 110) rfl), rfl⟩
theorem tw_831 : Jvm.Cond.methodLink "LetHolesModel" (126 : Nat) ({ cls := "LetHolesModel", name := "freePaste", desc := "(I)I" } : Jvm.MethodName) ∈ lw_g := List.mem_filter.mpr ⟨mj_4 (List.mem_of_getElem? (i := 111) rfl), rfl⟩
theorem tw_832 : Jvm.Cond.privateMethod ({ cls := "LetHolesModel", name := "freePaste", desc := "(I)I" } : Jvm.MethodName) ∈ lw_tbl := mj_4 (List.mem_of_getElem? (i := 112) rfl)
theorem tw_833 : Jvm.Cond.instanceMethod ({ cls := "LetHolesModel", name := "freePaste", desc := "(I)I" } : Jvm.MethodName) ∈ lw_g := List.mem_filter.mpr ⟨mj_4 (List.mem_of_getElem? (i := 113) rfl), rfl⟩
theorem tw_834 : Jvm.Cond.code ({ cls := "LetHolesModel", name := "freePaste", desc := "(I)I" } : Jvm.MethodName) prog_9_method_23_code (4 : Nat) (Option.some Jvm.ClassFile.FieldType.int) ∈ lw_g := List.mem_filter.mpr ⟨mj_4 (List.mem_of_getElem? (i := 114) rfl), rfl⟩
theorem tw_835 : Jvm.Cond.methodLink "LetHolesModel" (122 : Nat) ({ cls := "LetHolesModel", name := "isMonks", desc := "(I)Z" } : Jvm.MethodName) ∈ lw_g := List.mem_filter.mpr ⟨mj_4 (List.mem_of_getElem? (i := 115) rfl), rfl⟩
theorem tw_836 : Jvm.Cond.privateMethod ({ cls := "LetHolesModel", name := "isMonks", desc := "(I)Z" } : Jvm.MethodName) ∈ lw_tbl := mj_4 (List.mem_of_getElem? (i := 116) rfl)
theorem tw_837 : Jvm.Cond.instanceMethod ({ cls := "LetHolesModel", name := "isMonks", desc := "(I)Z" } : Jvm.MethodName) ∈ lw_g := List.mem_filter.mpr ⟨mj_4 (List.mem_of_getElem? (i := 117) rfl), rfl⟩
theorem tw_838 : Jvm.Cond.code ({ cls := "LetHolesModel", name := "isMonks", desc := "(I)Z" } : Jvm.MethodName) prog_9_method_19_code (3 : Nat) (Option.some Jvm.ClassFile.FieldType.boolean) ∈ lw_g := List.mem_filter.mpr ⟨mj_4 (List.mem_of_getElem? (i := 118) rfl), rfl⟩
theorem tw_839 : Jvm.Cond.methodLink "LetHolesModel" (129 : Nat) ({ cls := "LetHolesModel", name := "takes", desc := "(III)I" } : Jvm.MethodName) ∈ lw_g := List.mem_filter.mpr ⟨mj_4 (List.mem_of_getElem? (i := 119) rfl), rfl⟩
theorem tw_840 : Jvm.Cond.privateMethod ({ cls := "LetHolesModel", name := "takes", desc := "(III)I" } : Jvm.MethodName) ∈ lw_tbl := mj_4 (List.mem_of_getElem? (i := 120) rfl)
theorem tw_841 : Jvm.Cond.instanceMethod ({ cls := "LetHolesModel", name := "takes", desc := "(III)I" } : Jvm.MethodName) ∈ lw_g := List.mem_filter.mpr ⟨mj_4 (List.mem_of_getElem? (i := 121) rfl), rfl⟩
theorem tw_842 : Jvm.Cond.code ({ cls := "LetHolesModel", name := "takes", desc := "(III)I" } : Jvm.MethodName) prog_9_method_22_code (5 : Nat) (Option.some Jvm.ClassFile.FieldType.int) ∈ lw_g := List.mem_filter.mpr ⟨mj_4 (List.mem_of_getElem? (i := 122) rfl), rfl⟩
theorem tw_843 : Jvm.Cond.methodLink "LetHolesModel" (112 : Nat) ({ cls := "LetHolesModel", name := "beside", desc := "(I)I" } : Jvm.MethodName) ∈ lw_g := List.mem_filter.mpr ⟨mj_4 (List.mem_of_getElem? (i := 123) rfl), rfl⟩
theorem tw_844 : Jvm.Cond.static ({ cls := "LetHolesModel", name := "beside", desc := "(I)I" } : Jvm.MethodName) ∈ lw_g := List.mem_filter.mpr ⟨mj_4 (List.mem_of_getElem? (i := 124) rfl), rfl⟩
theorem tw_845 : Jvm.Cond.code ({ cls := "LetHolesModel", name := "beside", desc := "(I)I" } : Jvm.MethodName) prog_9_method_17_code (4 : Nat) (Option.some Jvm.ClassFile.FieldType.int) ∈ lw_g := List.mem_filter.mpr ⟨mj_4 (List.mem_of_getElem? (i := 125) rfl), rfl⟩
theorem tw_846 : Jvm.Cond.methodLink "LetHolesModel" (116 : Nat) ({ cls := "LetHolesModel", name := "least", desc := "(I)I" } : Jvm.MethodName) ∈ lw_g := List.mem_filter.mpr ⟨mj_4 (List.mem_of_getElem? (i := 126) rfl), rfl⟩
theorem tw_847 : Jvm.Cond.static ({ cls := "LetHolesModel", name := "least", desc := "(I)I" } : Jvm.MethodName) ∈ lw_g := List.mem_filter.mpr ⟨mj_4 (List.mem_of_getElem? (i := 127) rfl), rfl⟩
theorem tw_848 : Jvm.Cond.code ({ cls := "LetHolesModel", name := "least", desc := "(I)I" } : Jvm.MethodName) prog_9_method_21_code (2 : Nat) (Option.some Jvm.ClassFile.FieldType.int) ∈ lw_g := List.mem_filter.mpr ⟨mj_4 (List.mem_of_getElem? (i := 128) rfl), rfl⟩
theorem tw_849 : Jvm.Cond.methodLink "LetHolesModel" (133 : Nat) ({ cls := "LetHolesModel", name := "pay", desc := "(IIII)V" } : Jvm.MethodName) ∈ lw_g := List.mem_filter.mpr ⟨mj_4 (List.mem_of_getElem? (i := 129) rfl), rfl⟩
theorem tw_850 : Jvm.Cond.privateMethod ({ cls := "LetHolesModel", name := "pay", desc := "(IIII)V" } : Jvm.MethodName) ∈ lw_tbl := mj_4 (List.mem_of_getElem? (i := 130) rfl)
theorem tw_851 : Jvm.Cond.instanceMethod ({ cls := "LetHolesModel", name := "pay", desc := "(IIII)V" } : Jvm.MethodName) ∈ lw_g := List.mem_filter.mpr ⟨mj_4 (List.mem_of_getElem? (i := 131) rfl), rfl⟩
theorem tw_852 : Jvm.Cond.code ({ cls := "LetHolesModel", name := "pay", desc := "(IIII)V" } : Jvm.MethodName) prog_9_method_20_code (5 : Nat) (Option.none : Option Jvm.ClassFile.FieldType) ∈ lw_g := List.mem_filter.mpr ⟨mj_4 (List.mem_of_getElem? (i := 132) rfl), rfl⟩
theorem tw_853 : Jvm.Cond.methodLink "LetHolesModel" (151 : Nat) ({ cls := "LetHolesModel", name := "wed", desc := "(I)Z" } : Jvm.MethodName) ∈ lw_g := List.mem_filter.mpr ⟨mj_4 (List.mem_of_getElem? (i := 133) rfl), rfl⟩
theorem tw_854 : Jvm.Cond.privateMethod ({ cls := "LetHolesModel", name := "wed", desc := "(I)Z" } : Jvm.MethodName) ∈ lw_tbl := mj_4 (List.mem_of_getElem? (i := 134) rfl)
theorem tw_855 : Jvm.Cond.instanceMethod ({ cls := "LetHolesModel", name := "wed", desc := "(I)Z" } : Jvm.MethodName) ∈ lw_g := List.mem_filter.mpr ⟨mj_4 (List.mem_of_getElem? (i := 135) rfl), rfl⟩
theorem tw_856 : Jvm.Cond.code ({ cls := "LetHolesModel", name := "wed", desc := "(I)Z" } : Jvm.MethodName) prog_9_method_27_code (5 : Nat) (Option.some Jvm.ClassFile.FieldType.boolean) ∈ lw_g := List.mem_filter.mpr ⟨mj_4 (List.mem_of_getElem? (i := 136) rfl), rfl⟩
theorem tw_857 : Jvm.Cond.methodLink "LetHolesModel" (144 : Nat) ({ cls := "LetHolesModel", name := "join", desc := "(III)V" } : Jvm.MethodName) ∈ lw_g := List.mem_filter.mpr ⟨mj_4 (List.mem_of_getElem? (i := 137) rfl), rfl⟩
theorem tw_858 : Jvm.Cond.privateMethod ({ cls := "LetHolesModel", name := "join", desc := "(III)V" } : Jvm.MethodName) ∈ lw_tbl := mj_4 (List.mem_of_getElem? (i := 138) rfl)
theorem tw_859 : Jvm.Cond.instanceMethod ({ cls := "LetHolesModel", name := "join", desc := "(III)V" } : Jvm.MethodName) ∈ lw_g := List.mem_filter.mpr ⟨mj_4 (List.mem_of_getElem? (i := 139) rfl), rfl⟩
theorem tw_860 : Jvm.Cond.code ({ cls := "LetHolesModel", name := "join", desc := "(III)V" } : Jvm.MethodName) prog_9_method_26_code (9 : Nat) (Option.none : Option Jvm.ClassFile.FieldType) ∈ lw_g := List.mem_filter.mpr ⟨mj_4 (List.mem_of_getElem? (i := 140) rfl), rfl⟩
theorem tw_861 : Jvm.Cond.methodLink "LetHolesModel" (140 : Nat) ({ cls := "LetHolesModel", name := "endHole", desc := "(II)V" } : Jvm.MethodName) ∈ lw_g := List.mem_filter.mpr ⟨mj_4 (List.mem_of_getElem? (i := 141) rfl), rfl⟩
theorem tw_862 : Jvm.Cond.privateMethod ({ cls := "LetHolesModel", name := "endHole", desc := "(II)V" } : Jvm.MethodName) ∈ lw_tbl := mj_4 (List.mem_of_getElem? (i := 142) rfl)
theorem tw_863 : Jvm.Cond.instanceMethod ({ cls := "LetHolesModel", name := "endHole", desc := "(II)V" } : Jvm.MethodName) ∈ lw_g := List.mem_filter.mpr ⟨mj_4 (List.mem_of_getElem? (i := 143) rfl), rfl⟩
theorem tw_864 : Jvm.Cond.code ({ cls := "LetHolesModel", name := "endHole", desc := "(II)V" } : Jvm.MethodName) prog_9_method_25_code (3 : Nat) (Option.none : Option Jvm.ClassFile.FieldType) ∈ lw_g := List.mem_filter.mpr ⟨mj_4 (List.mem_of_getElem? (i := 144) rfl), rfl⟩
theorem tw_865 : Jvm.Cond.methodLink "LetHolesLaw" (51 : Nat) ({ cls := "LetHolesModel", name := "eat", desc := "(II)I" } : Jvm.MethodName) ∈ lw_g := List.mem_filter.mpr ⟨mj_4 (List.mem_of_getElem? (i := 145) rfl), rfl⟩
theorem tw_866 : Jvm.Cond.instanceMethod ({ cls := "LetHolesModel", name := "eat", desc := "(II)I" } : Jvm.MethodName) ∈ lw_g := List.mem_filter.mpr ⟨mj_4 (List.mem_of_getElem? (i := 146) rfl), rfl⟩
theorem tw_867 : Jvm.Cond.selects "LetHolesModel" ({ cls := "LetHolesModel", name := "eat", desc := "(II)I" } : Jvm.MethodName) ({ cls := "LetHolesModel", name := "eat", desc := "(II)I" } : Jvm.MethodName) ∈ lw_g := List.mem_filter.mpr ⟨mj_4 (List.mem_of_getElem? (i := 147) rfl), rfl⟩
theorem tw_868 : Jvm.Cond.code ({ cls := "LetHolesModel", name := "eat", desc := "(II)I" } : Jvm.MethodName) prog_9_method_38_code (3 : Nat) (Option.some Jvm.ClassFile.FieldType.int) ∈ lw_g := List.mem_filter.mpr ⟨mj_4 (List.mem_of_getElem? (i := 148) rfl), rfl⟩
theorem tw_869 : Jvm.Cond.methodLink "LetHolesModel" (178 : Nat) ({ cls := "LetHolesModel", name := "canEat", desc := "(III)Z" } : Jvm.MethodName) ∈ lw_g := List.mem_filter.mpr ⟨mj_4 (List.mem_of_getElem? (i := 149) rfl), rfl⟩
theorem tw_870 : Jvm.Cond.privateMethod ({ cls := "LetHolesModel", name := "canEat", desc := "(III)Z" } : Jvm.MethodName) ∈ lw_tbl := mj_4 (List.mem_of_getElem? (i := 150) rfl)
theorem tw_871 : Jvm.Cond.instanceMethod ({ cls := "LetHolesModel", name := "canEat", desc := "(III)Z" } : Jvm.MethodName) ∈ lw_g := List.mem_filter.mpr ⟨mj_4 (List.mem_of_getElem? (i := 151) rfl), rfl⟩
theorem tw_872 : Jvm.Cond.code ({ cls := "LetHolesModel", name := "canEat", desc := "(III)Z" } : Jvm.MethodName) prog_9_method_36_code (4 : Nat) (Option.some Jvm.ClassFile.FieldType.boolean) ∈ lw_g := List.mem_filter.mpr ⟨mj_4 (List.mem_of_getElem? (i := 152) rfl), rfl⟩
theorem tw_873 : Jvm.Cond.methodLink "LetHolesModel" (182 : Nat) ({ cls := "LetHolesModel", name := "eatOn", desc := "(III)I" } : Jvm.MethodName) ∈ lw_g := List.mem_filter.mpr ⟨mj_4 (List.mem_of_getElem? (i := 153) rfl), rfl⟩
theorem tw_874 : Jvm.Cond.privateMethod ({ cls := "LetHolesModel", name := "eatOn", desc := "(III)I" } : Jvm.MethodName) ∈ lw_tbl := mj_4 (List.mem_of_getElem? (i := 154) rfl)
theorem tw_875 : Jvm.Cond.instanceMethod ({ cls := "LetHolesModel", name := "eatOn", desc := "(III)I" } : Jvm.MethodName) ∈ lw_g := List.mem_filter.mpr ⟨mj_4 (List.mem_of_getElem? (i := 155) rfl), rfl⟩
theorem tw_876 : Jvm.Cond.code ({ cls := "LetHolesModel", name := "eatOn", desc := "(III)I" } : Jvm.MethodName) prog_9_method_37_code (7 : Nat) (Option.some Jvm.ClassFile.FieldType.int) ∈ lw_g := List.mem_filter.mpr ⟨mj_4 (List.mem_of_getElem? (i := 156) rfl), rfl⟩
theorem tw_877 : Jvm.Cond.methodLink "LetHolesLaw" (55 : Nat) ({ cls := "LetHolesModel", name := "let", desc := "(II)I" } : Jvm.MethodName) ∈ lw_g := List.mem_filter.mpr ⟨mj_4 (List.mem_of_getElem? (i := 157) rfl), rfl⟩
theorem tw_878 : Jvm.Cond.instanceMethod ({ cls := "LetHolesModel", name := "let", desc := "(II)I" } : Jvm.MethodName) ∈ lw_g := List.mem_filter.mpr ⟨mj_4 (List.mem_of_getElem? (i := 158) rfl), rfl⟩
theorem tw_879 : Jvm.Cond.selects "LetHolesModel" ({ cls := "LetHolesModel", name := "let", desc := "(II)I" } : Jvm.MethodName) ({ cls := "LetHolesModel", name := "let", desc := "(II)I" } : Jvm.MethodName) ∈ lw_g := List.mem_filter.mpr ⟨mj_4 (List.mem_of_getElem? (i := 159) rfl), rfl⟩
theorem tw_880 : Jvm.Cond.code ({ cls := "LetHolesModel", name := "let", desc := "(II)I" } : Jvm.MethodName) prog_9_method_40_code (4 : Nat) (Option.some Jvm.ClassFile.FieldType.int) ∈ lw_g := List.mem_filter.mpr ⟨mj_4 (List.mem_of_getElem? (i := 160) rfl), rfl⟩
theorem tw_881 : Jvm.Cond.methodLink "LetHolesModel" (185 : Nat) ({ cls := "LetHolesModel", name := "canLet", desc := "(III)Z" } : Jvm.MethodName) ∈ lw_g := List.mem_filter.mpr ⟨mj_4 (List.mem_of_getElem? (i := 161) rfl), rfl⟩
theorem tw_882 : Jvm.Cond.privateMethod ({ cls := "LetHolesModel", name := "canLet", desc := "(III)Z" } : Jvm.MethodName) ∈ lw_tbl := mj_4 (List.mem_of_getElem? (i := 162) rfl)
theorem tw_883 : Jvm.Cond.instanceMethod ({ cls := "LetHolesModel", name := "canLet", desc := "(III)Z" } : Jvm.MethodName) ∈ lw_g := List.mem_filter.mpr ⟨mj_4 (List.mem_of_getElem? (i := 163) rfl), rfl⟩
theorem tw_884 : Jvm.Cond.code ({ cls := "LetHolesModel", name := "canLet", desc := "(III)Z" } : Jvm.MethodName) prog_9_method_39_code (5 : Nat) (Option.some Jvm.ClassFile.FieldType.boolean) ∈ lw_g := List.mem_filter.mpr ⟨mj_4 (List.mem_of_getElem? (i := 164) rfl), rfl⟩
theorem tw_885 : Jvm.Cond.methodLink "LetHolesLaw" (59 : Nat) ({ cls := "LetHolesModel", name := "sell", desc := "(II)I" } : Jvm.MethodName) ∈ lw_g := List.mem_filter.mpr ⟨mj_4 (List.mem_of_getElem? (i := 165) rfl), rfl⟩
theorem tw_886 : Jvm.Cond.instanceMethod ({ cls := "LetHolesModel", name := "sell", desc := "(II)I" } : Jvm.MethodName) ∈ lw_g := List.mem_filter.mpr ⟨mj_4 (List.mem_of_getElem? (i := 166) rfl), rfl⟩
theorem tw_887 : Jvm.Cond.selects "LetHolesModel" ({ cls := "LetHolesModel", name := "sell", desc := "(II)I" } : Jvm.MethodName) ({ cls := "LetHolesModel", name := "sell", desc := "(II)I" } : Jvm.MethodName) ∈ lw_g := List.mem_filter.mpr ⟨mj_4 (List.mem_of_getElem? (i := 167) rfl), rfl⟩
theorem tw_888 : Jvm.Cond.code ({ cls := "LetHolesModel", name := "sell", desc := "(II)I" } : Jvm.MethodName) prog_9_method_43_code (3 : Nat) (Option.some Jvm.ClassFile.FieldType.int) ∈ lw_g := List.mem_filter.mpr ⟨mj_4 (List.mem_of_getElem? (i := 168) rfl), rfl⟩
theorem tw_889 : Jvm.Cond.methodLink "LetHolesModel" (188 : Nat) ({ cls := "LetHolesModel", name := "canSell", desc := "(III)Z" } : Jvm.MethodName) ∈ lw_g := List.mem_filter.mpr ⟨mj_4 (List.mem_of_getElem? (i := 169) rfl), rfl⟩
theorem tw_890 : Jvm.Cond.privateMethod ({ cls := "LetHolesModel", name := "canSell", desc := "(III)Z" } : Jvm.MethodName) ∈ lw_tbl := mj_4 (List.mem_of_getElem? (i := 170) rfl)
theorem tw_891 : Jvm.Cond.instanceMethod ({ cls := "LetHolesModel", name := "canSell", desc := "(III)Z" } : Jvm.MethodName) ∈ lw_g := List.mem_filter.mpr ⟨mj_4 (List.mem_of_getElem? (i := 171) rfl), rfl⟩
theorem tw_892 : Jvm.Cond.code ({ cls := "LetHolesModel", name := "canSell", desc := "(III)Z" } : Jvm.MethodName) prog_9_method_41_code (5 : Nat) (Option.some Jvm.ClassFile.FieldType.boolean) ∈ lw_g := List.mem_filter.mpr ⟨mj_4 (List.mem_of_getElem? (i := 172) rfl), rfl⟩
theorem tw_893 : Jvm.Cond.methodLink "LetHolesModel" (191 : Nat) ({ cls := "LetHolesModel", name := "sellOn", desc := "(III)I" } : Jvm.MethodName) ∈ lw_g := List.mem_filter.mpr ⟨mj_4 (List.mem_of_getElem? (i := 173) rfl), rfl⟩
theorem tw_894 : Jvm.Cond.privateMethod ({ cls := "LetHolesModel", name := "sellOn", desc := "(III)I" } : Jvm.MethodName) ∈ lw_tbl := mj_4 (List.mem_of_getElem? (i := 174) rfl)
theorem tw_895 : Jvm.Cond.instanceMethod ({ cls := "LetHolesModel", name := "sellOn", desc := "(III)I" } : Jvm.MethodName) ∈ lw_g := List.mem_filter.mpr ⟨mj_4 (List.mem_of_getElem? (i := 175) rfl), rfl⟩
theorem tw_896 : Jvm.Cond.code ({ cls := "LetHolesModel", name := "sellOn", desc := "(III)I" } : Jvm.MethodName) prog_9_method_42_code (6 : Nat) (Option.some Jvm.ClassFile.FieldType.int) ∈ lw_g := List.mem_filter.mpr ⟨mj_4 (List.mem_of_getElem? (i := 176) rfl), rfl⟩
theorem tw_897 : Jvm.Cond.methodLink "LetHolesLaw" (63 : Nat) ({ cls := "LetHolesModel", name := "undo", desc := "()I" } : Jvm.MethodName) ∈ lw_g := List.mem_filter.mpr ⟨mj_4 (List.mem_of_getElem? (i := 177) rfl), rfl⟩
theorem tw_898 : Jvm.Cond.instanceMethod ({ cls := "LetHolesModel", name := "undo", desc := "()I" } : Jvm.MethodName) ∈ lw_g := List.mem_filter.mpr ⟨mj_4 (List.mem_of_getElem? (i := 178) rfl), rfl⟩
theorem tw_899 : Jvm.Cond.selects "LetHolesModel" ({ cls := "LetHolesModel", name := "undo", desc := "()I" } : Jvm.MethodName) ({ cls := "LetHolesModel", name := "undo", desc := "()I" } : Jvm.MethodName) ∈ lw_g := List.mem_filter.mpr ⟨mj_4 (List.mem_of_getElem? (i := 179) rfl), rfl⟩
theorem tw_900 : Jvm.Cond.code ({ cls := "LetHolesModel", name := "undo", desc := "()I" } : Jvm.MethodName) prog_9_method_44_code (2 : Nat) (Option.some Jvm.ClassFile.FieldType.int) ∈ lw_g := List.mem_filter.mpr ⟨mj_4 (List.mem_of_getElem? (i := 180) rfl), rfl⟩
theorem tw_901 : Jvm.Cond.methodLink "LetHolesLaw" (67 : Nat) ({ cls := "LetHolesModel", name := "way", desc := "(II)I" } : Jvm.MethodName) ∈ lw_g := List.mem_filter.mpr ⟨mj_4 (List.mem_of_getElem? (i := 181) rfl), rfl⟩
theorem tw_902 : Jvm.Cond.instanceMethod ({ cls := "LetHolesModel", name := "way", desc := "(II)I" } : Jvm.MethodName) ∈ lw_g := List.mem_filter.mpr ⟨mj_4 (List.mem_of_getElem? (i := 182) rfl), rfl⟩
theorem tw_903 : Jvm.Cond.selects "LetHolesModel" ({ cls := "LetHolesModel", name := "way", desc := "(II)I" } : Jvm.MethodName) ({ cls := "LetHolesModel", name := "way", desc := "(II)I" } : Jvm.MethodName) ∈ lw_g := List.mem_filter.mpr ⟨mj_4 (List.mem_of_getElem? (i := 183) rfl), rfl⟩
theorem tw_904 : Jvm.Cond.code ({ cls := "LetHolesModel", name := "way", desc := "(II)I" } : Jvm.MethodName) prog_9_method_46_code (3 : Nat) (Option.some Jvm.ClassFile.FieldType.int) ∈ lw_g := List.mem_filter.mpr ⟨mj_4 (List.mem_of_getElem? (i := 184) rfl), rfl⟩
theorem tw_905 : Jvm.Cond.methodLink "LetHolesModel" (194 : Nat) ({ cls := "LetHolesModel", name := "stepsBy", desc := "(III)I" } : Jvm.MethodName) ∈ lw_g := List.mem_filter.mpr ⟨mj_4 (List.mem_of_getElem? (i := 185) rfl), rfl⟩
theorem tw_906 : Jvm.Cond.static ({ cls := "LetHolesModel", name := "stepsBy", desc := "(III)I" } : Jvm.MethodName) ∈ lw_g := List.mem_filter.mpr ⟨mj_4 (List.mem_of_getElem? (i := 186) rfl), rfl⟩
theorem tw_907 : Jvm.Cond.code ({ cls := "LetHolesModel", name := "stepsBy", desc := "(III)I" } : Jvm.MethodName) prog_9_method_45_code (5 : Nat) (Option.some Jvm.ClassFile.FieldType.int) ∈ lw_g := List.mem_filter.mpr ⟨mj_4 (List.mem_of_getElem? (i := 187) rfl), rfl⟩
theorem tw_908 : Jvm.Cond.methodLink "LetHolesLaw" (71 : Nat) ({ cls := "LetHolesModel", name := "gnaw", desc := "(II)I" } : Jvm.MethodName) ∈ lw_g := List.mem_filter.mpr ⟨mj_4 (List.mem_of_getElem? (i := 188) rfl), rfl⟩
theorem tw_909 : Jvm.Cond.instanceMethod ({ cls := "LetHolesModel", name := "gnaw", desc := "(II)I" } : Jvm.MethodName) ∈ lw_g := List.mem_filter.mpr ⟨mj_4 (List.mem_of_getElem? (i := 189) rfl), rfl⟩
theorem tw_910 : Jvm.Cond.selects "LetHolesModel" ({ cls := "LetHolesModel", name := "gnaw", desc := "(II)I" } : Jvm.MethodName) ({ cls := "LetHolesModel", name := "gnaw", desc := "(II)I" } : Jvm.MethodName) ∈ lw_g := List.mem_filter.mpr ⟨mj_4 (List.mem_of_getElem? (i := 190) rfl), rfl⟩
theorem tw_911 : Jvm.Cond.code ({ cls := "LetHolesModel", name := "gnaw", desc := "(II)I" } : Jvm.MethodName) prog_9_method_47_code (5 : Nat) (Option.some Jvm.ClassFile.FieldType.int) ∈ lw_g := List.mem_filter.mpr ⟨mj_4 (List.mem_of_getElem? (i := 191) rfl), rfl⟩
theorem tw_912 : Jvm.Cond.methodLink "LetHolesModel" (197 : Nat) ({ cls := "LetHolesModel", name := "costOf", desc := "(I)I" } : Jvm.MethodName) ∈ lw_g := List.mem_filter.mpr ⟨mj_4 (List.mem_of_getElem? (i := 192) rfl), rfl⟩
theorem tw_913 : Jvm.Cond.privateMethod ({ cls := "LetHolesModel", name := "costOf", desc := "(I)I" } : Jvm.MethodName) ∈ lw_tbl := mj_4 (List.mem_of_getElem? (i := 193) rfl)
theorem tw_914 : Jvm.Cond.instanceMethod ({ cls := "LetHolesModel", name := "costOf", desc := "(I)I" } : Jvm.MethodName) ∈ lw_g := List.mem_filter.mpr ⟨mj_4 (List.mem_of_getElem? (i := 194) rfl), rfl⟩
theorem tw_915 : Jvm.Cond.code ({ cls := "LetHolesModel", name := "costOf", desc := "(I)I" } : Jvm.MethodName) prog_9_method_48_code (2 : Nat) (Option.some Jvm.ClassFile.FieldType.int) ∈ lw_g := List.mem_filter.mpr ⟨mj_4 (List.mem_of_getElem? (i := 195) rfl), rfl⟩
theorem tw_916 : Jvm.Cond.methodLink "LetHolesModel" (200 : Nat) ({ cls := "LetHolesModel", name := "ease", desc := "(I)Z" } : Jvm.MethodName) ∈ lw_g := List.mem_filter.mpr ⟨mj_4 (List.mem_of_getElem? (i := 196) rfl), rfl⟩
theorem tw_917 : Jvm.Cond.privateMethod ({ cls := "LetHolesModel", name := "ease", desc := "(I)Z" } : Jvm.MethodName) ∈ lw_tbl := mj_4 (List.mem_of_getElem? (i := 197) rfl)
theorem tw_918 : Jvm.Cond.instanceMethod ({ cls := "LetHolesModel", name := "ease", desc := "(I)Z" } : Jvm.MethodName) ∈ lw_g := List.mem_filter.mpr ⟨mj_4 (List.mem_of_getElem? (i := 198) rfl), rfl⟩
theorem tw_919 : Jvm.Cond.code ({ cls := "LetHolesModel", name := "ease", desc := "(I)Z" } : Jvm.MethodName) prog_9_method_49_code (5 : Nat) (Option.some Jvm.ClassFile.FieldType.boolean) ∈ lw_g := List.mem_filter.mpr ⟨mj_4 (List.mem_of_getElem? (i := 199) rfl), rfl⟩
theorem tw_920 : Jvm.Cond.methodLink "LetHolesLaw" (75 : Nat) ({ cls := "LetHolesModel", name := "wedding", desc := "(II)I" } : Jvm.MethodName) ∈ lw_g := List.mem_filter.mpr ⟨mj_4 (List.mem_of_getElem? (i := 200) rfl), rfl⟩
theorem tw_921 : Jvm.Cond.instanceMethod ({ cls := "LetHolesModel", name := "wedding", desc := "(II)I" } : Jvm.MethodName) ∈ lw_g := List.mem_filter.mpr ⟨mj_4 (List.mem_of_getElem? (i := 201) rfl), rfl⟩
theorem tw_922 : Jvm.Cond.selects "LetHolesModel" ({ cls := "LetHolesModel", name := "wedding", desc := "(II)I" } : Jvm.MethodName) ({ cls := "LetHolesModel", name := "wedding", desc := "(II)I" } : Jvm.MethodName) ∈ lw_g := List.mem_filter.mpr ⟨mj_4 (List.mem_of_getElem? (i := 202) rfl), rfl⟩
theorem tw_923 : Jvm.Cond.code ({ cls := "LetHolesModel", name := "wedding", desc := "(II)I" } : Jvm.MethodName) prog_9_method_51_code (4 : Nat) (Option.some Jvm.ClassFile.FieldType.int) ∈ lw_g := List.mem_filter.mpr ⟨mj_4 (List.mem_of_getElem? (i := 203) rfl), rfl⟩
theorem tw_924 : Jvm.Cond.methodLink "LetHolesModel" (203 : Nat) ({ cls := "LetHolesModel", name := "layTrial", desc := "()V" } : Jvm.MethodName) ∈ lw_g := List.mem_filter.mpr ⟨mj_4 (List.mem_of_getElem? (i := 204) rfl), rfl⟩
theorem tw_925 : Jvm.Cond.privateMethod ({ cls := "LetHolesModel", name := "layTrial", desc := "()V" } : Jvm.MethodName) ∈ lw_tbl := mj_4 (List.mem_of_getElem? (i := 205) rfl)
theorem tw_926 : Jvm.Cond.instanceMethod ({ cls := "LetHolesModel", name := "layTrial", desc := "()V" } : Jvm.MethodName) ∈ lw_g := List.mem_filter.mpr ⟨mj_4 (List.mem_of_getElem? (i := 206) rfl), rfl⟩
theorem tw_927 : Jvm.Cond.code ({ cls := "LetHolesModel", name := "layTrial", desc := "()V" } : Jvm.MethodName) prog_9_method_50_code (2 : Nat) (Option.none : Option Jvm.ClassFile.FieldType) ∈ lw_g := List.mem_filter.mpr ⟨mj_4 (List.mem_of_getElem? (i := 207) rfl), rfl⟩
theorem tw_928 : Jvm.Cond.methodLink "LetHolesLaw" (79 : Nat) ({ cls := "LetHolesModel", name := "ahead", desc := "(II)I" } : Jvm.MethodName) ∈ lw_g := List.mem_filter.mpr ⟨mj_4 (List.mem_of_getElem? (i := 208) rfl), rfl⟩
theorem tw_929 : Jvm.Cond.instanceMethod ({ cls := "LetHolesModel", name := "ahead", desc := "(II)I" } : Jvm.MethodName) ∈ lw_g := List.mem_filter.mpr ⟨mj_4 (List.mem_of_getElem? (i := 209) rfl), rfl⟩
theorem tw_930 : Jvm.Cond.selects "LetHolesModel" ({ cls := "LetHolesModel", name := "ahead", desc := "(II)I" } : Jvm.MethodName) ({ cls := "LetHolesModel", name := "ahead", desc := "(II)I" } : Jvm.MethodName) ∈ lw_g := List.mem_filter.mpr ⟨mj_4 (List.mem_of_getElem? (i := 210) rfl), rfl⟩
theorem tw_931 : Jvm.Cond.code ({ cls := "LetHolesModel", name := "ahead", desc := "(II)I" } : Jvm.MethodName) prog_9_method_52_code (4 : Nat) (Option.some Jvm.ClassFile.FieldType.int) ∈ lw_g := List.mem_filter.mpr ⟨mj_4 (List.mem_of_getElem? (i := 211) rfl), rfl⟩
theorem tw_932 : Jvm.Cond.constantLong "LetHolesModel" (206 : Nat) (20 : Int64) ∈ lw_g := List.mem_filter.mpr ⟨mj_4 (List.mem_of_getElem? (i := 212) rfl), rfl⟩
theorem tw_933 : Jvm.Cond.methodLink "LetHolesModel" (208 : Nat) ({ cls := "LetHolesModel", name := "alive", desc := "(I)I" } : Jvm.MethodName) ∈ lw_g := List.mem_filter.mpr ⟨mj_4 (List.mem_of_getElem? (i := 213) rfl), rfl⟩
theorem tw_934 : Jvm.Cond.privateMethod ({ cls := "LetHolesModel", name := "alive", desc := "(I)I" } : Jvm.MethodName) ∈ lw_tbl := mj_4 (List.mem_of_getElem? (i := 214) rfl)
theorem tw_935 : Jvm.Cond.instanceMethod ({ cls := "LetHolesModel", name := "alive", desc := "(I)I" } : Jvm.MethodName) ∈ lw_g := List.mem_filter.mpr ⟨mj_4 (List.mem_of_getElem? (i := 215) rfl), rfl⟩
theorem tw_936 : Jvm.Cond.code ({ cls := "LetHolesModel", name := "alive", desc := "(I)I" } : Jvm.MethodName) prog_9_method_29_code (4 : Nat) (Option.some Jvm.ClassFile.FieldType.int) ∈ lw_g := List.mem_filter.mpr ⟨mj_4 (List.mem_of_getElem? (i := 216) rfl), rfl⟩
theorem tw_937 : Jvm.Cond.methodLink "LetHolesLaw" (84 : Nat) ({ cls := "LetHolesModel", name := "cut", desc := "(III)I" } : Jvm.MethodName) ∈ lw_g := List.mem_filter.mpr ⟨mj_4 (List.mem_of_getElem? (i := 217) rfl), rfl⟩
theorem tw_938 : Jvm.Cond.instanceMethod ({ cls := "LetHolesModel", name := "cut", desc := "(III)I" } : Jvm.MethodName) ∈ lw_g := List.mem_filter.mpr ⟨mj_4 (List.mem_of_getElem? (i := 218) rfl), rfl⟩
theorem tw_939 : Jvm.Cond.selects "LetHolesModel" ({ cls := "LetHolesModel", name := "cut", desc := "(III)I" } : Jvm.MethodName) ({ cls := "LetHolesModel", name := "cut", desc := "(III)I" } : Jvm.MethodName) ∈ lw_g := List.mem_filter.mpr ⟨mj_4 (List.mem_of_getElem? (i := 219) rfl), rfl⟩
theorem tw_940 : Jvm.Cond.code ({ cls := "LetHolesModel", name := "cut", desc := "(III)I" } : Jvm.MethodName) prog_9_method_53_code (9 : Nat) (Option.some Jvm.ClassFile.FieldType.int) ∈ lw_g := List.mem_filter.mpr ⟨mj_4 (List.mem_of_getElem? (i := 220) rfl), rfl⟩
theorem tw_941 : Jvm.Cond.methodLink "LetHolesLaw" (91 : Nat) ({ cls := "LetHolesModel", name := "judge", desc := "(IJ)I" } : Jvm.MethodName) ∈ lw_g := List.mem_filter.mpr ⟨mj_4 (List.mem_of_getElem? (i := 221) rfl), rfl⟩
theorem tw_942 : Jvm.Cond.instanceMethod ({ cls := "LetHolesModel", name := "judge", desc := "(IJ)I" } : Jvm.MethodName) ∈ lw_g := List.mem_filter.mpr ⟨mj_4 (List.mem_of_getElem? (i := 222) rfl), rfl⟩
theorem tw_943 : Jvm.Cond.selects "LetHolesModel" ({ cls := "LetHolesModel", name := "judge", desc := "(IJ)I" } : Jvm.MethodName) ({ cls := "LetHolesModel", name := "judge", desc := "(IJ)I" } : Jvm.MethodName) ∈ lw_g := List.mem_filter.mpr ⟨mj_4 (List.mem_of_getElem? (i := 223) rfl), rfl⟩
theorem tw_944 : Jvm.Cond.code ({ cls := "LetHolesModel", name := "judge", desc := "(IJ)I" } : Jvm.MethodName) prog_9_method_56_code (6 : Nat) (Option.some Jvm.ClassFile.FieldType.int) ∈ lw_g := List.mem_filter.mpr ⟨mj_4 (List.mem_of_getElem? (i := 224) rfl), rfl⟩
theorem tw_945 : Jvm.Cond.constantLong "LetHolesModel" (211 : Nat) (3 : Int64) ∈ lw_g := List.mem_filter.mpr ⟨mj_4 (List.mem_of_getElem? (i := 225) rfl), rfl⟩
theorem tw_946 : Jvm.Cond.constantLong "LetHolesModel" (213 : Nat) (10000 : Int64) ∈ lw_g := List.mem_filter.mpr ⟨mj_4 (List.mem_of_getElem? (i := 226) rfl), rfl⟩
theorem tw_947 : Jvm.Cond.methodLink "LetHolesModel" (215 : Nat) ({ cls := "LetHolesModel", name := "power", desc := "(JI)J" } : Jvm.MethodName) ∈ lw_g := List.mem_filter.mpr ⟨mj_4 (List.mem_of_getElem? (i := 227) rfl), rfl⟩
theorem tw_948 : Jvm.Cond.static ({ cls := "LetHolesModel", name := "power", desc := "(JI)J" } : Jvm.MethodName) ∈ lw_g := List.mem_filter.mpr ⟨mj_4 (List.mem_of_getElem? (i := 228) rfl), rfl⟩
theorem tw_949 : Jvm.Cond.code ({ cls := "LetHolesModel", name := "power", desc := "(JI)J" } : Jvm.MethodName) prog_9_method_55_code (6 : Nat) (Option.some Jvm.ClassFile.FieldType.long) ∈ lw_g := List.mem_filter.mpr ⟨mj_4 (List.mem_of_getElem? (i := 229) rfl), rfl⟩
theorem tw_950 : Jvm.Cond.methodLink "LetHolesModel" (219 : Nat) ({ cls := "LetHolesModel", name := "tryThing", desc := "(III)Z" } : Jvm.MethodName) ∈ lw_g := List.mem_filter.mpr ⟨mj_4 (List.mem_of_getElem? (i := 230) rfl), rfl⟩
theorem tw_951 : Jvm.Cond.privateMethod ({ cls := "LetHolesModel", name := "tryThing", desc := "(III)Z" } : Jvm.MethodName) ∈ lw_tbl := mj_4 (List.mem_of_getElem? (i := 231) rfl)
theorem tw_952 : Jvm.Cond.instanceMethod ({ cls := "LetHolesModel", name := "tryThing", desc := "(III)Z" } : Jvm.MethodName) ∈ lw_g := List.mem_filter.mpr ⟨mj_4 (List.mem_of_getElem? (i := 232) rfl), rfl⟩
theorem tw_953 : Jvm.Cond.code ({ cls := "LetHolesModel", name := "tryThing", desc := "(III)Z" } : Jvm.MethodName) prog_9_method_54_code (7 : Nat) (Option.some Jvm.ClassFile.FieldType.boolean) ∈ lw_g := List.mem_filter.mpr ⟨mj_4 (List.mem_of_getElem? (i := 233) rfl), rfl⟩
theorem tw_954 : Jvm.Cond.methodLink "LetHolesLaw" (95 : Nat) ({ cls := "LetHolesModel", name := "taste", desc := "(III)I" } : Jvm.MethodName) ∈ lw_g := List.mem_filter.mpr ⟨mj_4 (List.mem_of_getElem? (i := 234) rfl), rfl⟩
theorem tw_955 : Jvm.Cond.instanceMethod ({ cls := "LetHolesModel", name := "taste", desc := "(III)I" } : Jvm.MethodName) ∈ lw_g := List.mem_filter.mpr ⟨mj_4 (List.mem_of_getElem? (i := 235) rfl), rfl⟩
theorem tw_956 : Jvm.Cond.selects "LetHolesModel" ({ cls := "LetHolesModel", name := "taste", desc := "(III)I" } : Jvm.MethodName) ({ cls := "LetHolesModel", name := "taste", desc := "(III)I" } : Jvm.MethodName) ∈ lw_g := List.mem_filter.mpr ⟨mj_4 (List.mem_of_getElem? (i := 236) rfl), rfl⟩
theorem tw_957 : Jvm.Cond.code ({ cls := "LetHolesModel", name := "taste", desc := "(III)I" } : Jvm.MethodName) prog_9_method_57_code (4 : Nat) (Option.some Jvm.ClassFile.FieldType.int) ∈ lw_g := List.mem_filter.mpr ⟨mj_4 (List.mem_of_getElem? (i := 237) rfl), rfl⟩
theorem tw_958 : Jvm.Cond.constantLong "LetHolesModel" (222 : Nat) (9 : Int64) ∈ lw_g := List.mem_filter.mpr ⟨mj_4 (List.mem_of_getElem? (i := 238) rfl), rfl⟩
theorem tw_959 : Jvm.Cond.methodLink "LetHolesLaw" (99 : Nat) ({ cls := "LetHolesModel", name := "rinse", desc := "()I" } : Jvm.MethodName) ∈ lw_g := List.mem_filter.mpr ⟨mj_4 (List.mem_of_getElem? (i := 239) rfl), rfl⟩
theorem tw_960 : Jvm.Cond.instanceMethod ({ cls := "LetHolesModel", name := "rinse", desc := "()I" } : Jvm.MethodName) ∈ lw_g := List.mem_filter.mpr ⟨mj_5 (List.mem_of_getElem? (i := 0) rfl), rfl⟩
theorem tw_961 : Jvm.Cond.selects "LetHolesModel" ({ cls := "LetHolesModel", name := "rinse", desc := "()I" } : Jvm.MethodName) ({ cls := "LetHolesModel", name := "rinse", desc := "()I" } : Jvm.MethodName) ∈ lw_g := List.mem_filter.mpr ⟨mj_5 (List.mem_of_getElem? (i := 1) rfl), rfl⟩
theorem tw_962 : Jvm.Cond.code ({ cls := "LetHolesModel", name := "rinse", desc := "()I" } : Jvm.MethodName) prog_9_method_58_code (2 : Nat) (Option.some Jvm.ClassFile.FieldType.int) ∈ lw_g := List.mem_filter.mpr ⟨mj_5 (List.mem_of_getElem? (i := 2) rfl), rfl⟩
theorem tw_963 : Jvm.Cond.methodLink "LetHolesLaw" (103 : Nat) ({ cls := "LetHolesModel", name := "began", desc := "(I)I" } : Jvm.MethodName) ∈ lw_g := List.mem_filter.mpr ⟨mj_5 (List.mem_of_getElem? (i := 3) rfl), rfl⟩
theorem tw_964 : Jvm.Cond.instanceMethod ({ cls := "LetHolesModel", name := "began", desc := "(I)I" } : Jvm.MethodName) ∈ lw_g := List.mem_filter.mpr ⟨mj_5 (List.mem_of_getElem? (i := 4) rfl), rfl⟩
theorem tw_965 : Jvm.Cond.selects "LetHolesModel" ({ cls := "LetHolesModel", name := "began", desc := "(I)I" } : Jvm.MethodName) ({ cls := "LetHolesModel", name := "began", desc := "(I)I" } : Jvm.MethodName) ∈ lw_g := List.mem_filter.mpr ⟨mj_5 (List.mem_of_getElem? (i := 5) rfl), rfl⟩
theorem tw_966 : Jvm.Cond.code ({ cls := "LetHolesModel", name := "began", desc := "(I)I" } : Jvm.MethodName) prog_9_method_60_code (4 : Nat) (Option.some Jvm.ClassFile.FieldType.int) ∈ lw_g := List.mem_filter.mpr ⟨mj_5 (List.mem_of_getElem? (i := 6) rfl), rfl⟩
theorem tw_967 : Jvm.Cond.methodLink "LetHolesModel" (227 : Nat) ({ cls := "LetHolesModel", name := "mayBegin", desc := "(II)Z" } : Jvm.MethodName) ∈ lw_g := List.mem_filter.mpr ⟨mj_5 (List.mem_of_getElem? (i := 7) rfl), rfl⟩
theorem tw_968 : Jvm.Cond.privateMethod ({ cls := "LetHolesModel", name := "mayBegin", desc := "(II)Z" } : Jvm.MethodName) ∈ lw_tbl := mj_5 (List.mem_of_getElem? (i := 8) rfl)
theorem tw_969 : Jvm.Cond.instanceMethod ({ cls := "LetHolesModel", name := "mayBegin", desc := "(II)Z" } : Jvm.MethodName) ∈ lw_g := List.mem_filter.mpr ⟨mj_5 (List.mem_of_getElem? (i := 9) rfl), rfl⟩
theorem tw_970 : Jvm.Cond.code ({ cls := "LetHolesModel", name := "mayBegin", desc := "(II)Z" } : Jvm.MethodName) prog_9_method_59_code (8 : Nat) (Option.some Jvm.ClassFile.FieldType.boolean) ∈ lw_g := List.mem_filter.mpr ⟨mj_5 (List.mem_of_getElem? (i := 10) rfl), rfl⟩
theorem tw_971 : Jvm.Cond.methodLink "LetHolesLaw" (108 : Nat) ({ cls := "LetHolesModel", name := "share", desc := "(IZ)I" } : Jvm.MethodName) ∈ lw_g := List.mem_filter.mpr ⟨mj_5 (List.mem_of_getElem? (i := 11) rfl), rfl⟩
theorem tw_972 : Jvm.Cond.instanceMethod ({ cls := "LetHolesModel", name := "share", desc := "(IZ)I" } : Jvm.MethodName) ∈ lw_g := List.mem_filter.mpr ⟨mj_5 (List.mem_of_getElem? (i := 12) rfl), rfl⟩
theorem tw_973 : Jvm.Cond.selects "LetHolesModel" ({ cls := "LetHolesModel", name := "share", desc := "(IZ)I" } : Jvm.MethodName) ({ cls := "LetHolesModel", name := "share", desc := "(IZ)I" } : Jvm.MethodName) ∈ lw_g := List.mem_filter.mpr ⟨mj_5 (List.mem_of_getElem? (i := 13) rfl), rfl⟩
theorem tw_974 : Jvm.Cond.code ({ cls := "LetHolesModel", name := "share", desc := "(IZ)I" } : Jvm.MethodName) prog_9_method_64_code (6 : Nat) (Option.some Jvm.ClassFile.FieldType.int) ∈ lw_g := List.mem_filter.mpr ⟨mj_5 (List.mem_of_getElem? (i := 14) rfl), rfl⟩
theorem tw_975 : Jvm.Cond.methodLink "LetHolesModel" (230 : Nat) ({ cls := "LetHolesModel", name := "factorial", desc := "(I)I" } : Jvm.MethodName) ∈ lw_g := List.mem_filter.mpr ⟨mj_5 (List.mem_of_getElem? (i := 15) rfl), rfl⟩
theorem tw_976 : Jvm.Cond.static ({ cls := "LetHolesModel", name := "factorial", desc := "(I)I" } : Jvm.MethodName) ∈ lw_g := List.mem_filter.mpr ⟨mj_5 (List.mem_of_getElem? (i := 16) rfl), rfl⟩
theorem tw_977 : Jvm.Cond.code ({ cls := "LetHolesModel", name := "factorial", desc := "(I)I" } : Jvm.MethodName) prog_9_method_61_code (3 : Nat) (Option.some Jvm.ClassFile.FieldType.int) ∈ lw_g := List.mem_filter.mpr ⟨mj_5 (List.mem_of_getElem? (i := 17) rfl), rfl⟩
theorem tw_978 : Jvm.Cond.methodLink "LetHolesModel" (233 : Nat) ({ cls := "LetHolesModel", name := "largest", desc := "(I)I" } : Jvm.MethodName) ∈ lw_g := List.mem_filter.mpr ⟨mj_5 (List.mem_of_getElem? (i := 18) rfl), rfl⟩
theorem tw_979 : Jvm.Cond.privateMethod ({ cls := "LetHolesModel", name := "largest", desc := "(I)I" } : Jvm.MethodName) ∈ lw_tbl := mj_5 (List.mem_of_getElem? (i := 19) rfl)
theorem tw_980 : Jvm.Cond.instanceMethod ({ cls := "LetHolesModel", name := "largest", desc := "(I)I" } : Jvm.MethodName) ∈ lw_g := List.mem_filter.mpr ⟨mj_5 (List.mem_of_getElem? (i := 20) rfl), rfl⟩
theorem tw_981 : Jvm.Cond.code ({ cls := "LetHolesModel", name := "largest", desc := "(I)I" } : Jvm.MethodName) prog_9_method_63_code (6 : Nat) (Option.some Jvm.ClassFile.FieldType.int) ∈ lw_g := List.mem_filter.mpr ⟨mj_5 (List.mem_of_getElem? (i := 21) rfl), rfl⟩
theorem tw_982 : Jvm.Cond.methodLink "LetHolesModel" (236 : Nat) ({ cls := "LetHolesModel", name := "common", desc := "(II)I" } : Jvm.MethodName) ∈ lw_g := List.mem_filter.mpr ⟨mj_5 (List.mem_of_getElem? (i := 22) rfl), rfl⟩
theorem tw_983 : Jvm.Cond.static ({ cls := "LetHolesModel", name := "common", desc := "(II)I" } : Jvm.MethodName) ∈ lw_g := List.mem_filter.mpr ⟨mj_5 (List.mem_of_getElem? (i := 23) rfl), rfl⟩
theorem tw_984 : Jvm.Cond.code ({ cls := "LetHolesModel", name := "common", desc := "(II)I" } : Jvm.MethodName) prog_9_method_62_code (5 : Nat) (Option.some Jvm.ClassFile.FieldType.int) ∈ lw_g := List.mem_filter.mpr ⟨mj_5 (List.mem_of_getElem? (i := 24) rfl), rfl⟩
theorem tw_985 : Jvm.Cond.methodLink "LetHolesLaw" (112 : Nat) ({ cls := "LetHolesModel", name := "rests", desc := "(III)I" } : Jvm.MethodName) ∈ lw_g := List.mem_filter.mpr ⟨mj_5 (List.mem_of_getElem? (i := 25) rfl), rfl⟩
theorem tw_986 : Jvm.Cond.instanceMethod ({ cls := "LetHolesModel", name := "rests", desc := "(III)I" } : Jvm.MethodName) ∈ lw_g := List.mem_filter.mpr ⟨mj_5 (List.mem_of_getElem? (i := 26) rfl), rfl⟩
theorem tw_987 : Jvm.Cond.selects "LetHolesModel" ({ cls := "LetHolesModel", name := "rests", desc := "(III)I" } : Jvm.MethodName) ({ cls := "LetHolesModel", name := "rests", desc := "(III)I" } : Jvm.MethodName) ∈ lw_g := List.mem_filter.mpr ⟨mj_5 (List.mem_of_getElem? (i := 27) rfl), rfl⟩
theorem tw_988 : Jvm.Cond.code ({ cls := "LetHolesModel", name := "rests", desc := "(III)I" } : Jvm.MethodName) prog_9_method_67_code (10 : Nat) (Option.some Jvm.ClassFile.FieldType.int) ∈ lw_g := List.mem_filter.mpr ⟨mj_5 (List.mem_of_getElem? (i := 28) rfl), rfl⟩
theorem tw_989 : Jvm.Cond.methodLink "LetHolesModel" (242 : Nat) ({ cls := "LetHolesModel", name := "gain", desc := "(III)I" } : Jvm.MethodName) ∈ lw_g := List.mem_filter.mpr ⟨mj_5 (List.mem_of_getElem? (i := 29) rfl), rfl⟩
theorem tw_990 : Jvm.Cond.privateMethod ({ cls := "LetHolesModel", name := "gain", desc := "(III)I" } : Jvm.MethodName) ∈ lw_tbl := mj_5 (List.mem_of_getElem? (i := 30) rfl)
theorem tw_991 : Jvm.Cond.instanceMethod ({ cls := "LetHolesModel", name := "gain", desc := "(III)I" } : Jvm.MethodName) ∈ lw_g := List.mem_filter.mpr ⟨mj_5 (List.mem_of_getElem? (i := 31) rfl), rfl⟩
theorem tw_992 : Jvm.Cond.code ({ cls := "LetHolesModel", name := "gain", desc := "(III)I" } : Jvm.MethodName) prog_9_method_66_code (4 : Nat) (Option.some Jvm.ClassFile.FieldType.int) ∈ lw_g := List.mem_filter.mpr ⟨mj_5 (List.mem_of_getElem? (i := 32) rfl), rfl⟩
theorem tw_993 : Jvm.Cond.methodLink "LetHolesModel" (239 : Nat) ({ cls := "LetHolesModel", name := "holeCells", desc := "(I)I" } : Jvm.MethodName) ∈ lw_g := List.mem_filter.mpr ⟨mj_5 (List.mem_of_getElem? (i := 33) rfl), rfl⟩
theorem tw_994 : Jvm.Cond.privateMethod ({ cls := "LetHolesModel", name := "holeCells", desc := "(I)I" } : Jvm.MethodName) ∈ lw_tbl := mj_5 (List.mem_of_getElem? (i := 34) rfl)
theorem tw_995 : Jvm.Cond.instanceMethod ({ cls := "LetHolesModel", name := "holeCells", desc := "(I)I" } : Jvm.MethodName) ∈ lw_g := List.mem_filter.mpr ⟨mj_5 (List.mem_of_getElem? (i := 35) rfl), rfl⟩
theorem tw_996 : Jvm.Cond.code ({ cls := "LetHolesModel", name := "holeCells", desc := "(I)I" } : Jvm.MethodName) prog_9_method_65_code (4 : Nat) (Option.some Jvm.ClassFile.FieldType.int) ∈ lw_g := List.mem_filter.mpr ⟨mj_5 (List.mem_of_getElem? (i := 36) rfl), rfl⟩
theorem tw_997 : Jvm.Cond.methodLink "LetHolesLaw" (117 : Nat) ({ cls := "LetHolesModel", name := "passes", desc := "(IIIZ)I" } : Jvm.MethodName) ∈ lw_g := List.mem_filter.mpr ⟨mj_5 (List.mem_of_getElem? (i := 37) rfl), rfl⟩
theorem tw_998 : Jvm.Cond.instanceMethod ({ cls := "LetHolesModel", name := "passes", desc := "(IIIZ)I" } : Jvm.MethodName) ∈ lw_g := List.mem_filter.mpr ⟨mj_5 (List.mem_of_getElem? (i := 38) rfl), rfl⟩
theorem tw_999 : Jvm.Cond.selects "LetHolesModel" ({ cls := "LetHolesModel", name := "passes", desc := "(IIIZ)I" } : Jvm.MethodName) ({ cls := "LetHolesModel", name := "passes", desc := "(IIIZ)I" } : Jvm.MethodName) ∈ lw_g := List.mem_filter.mpr ⟨mj_5 (List.mem_of_getElem? (i := 39) rfl), rfl⟩
theorem tw_1000 : Jvm.Cond.code ({ cls := "LetHolesModel", name := "passes", desc := "(IIIZ)I" } : Jvm.MethodName) prog_9_method_68_code (11 : Nat) (Option.some Jvm.ClassFile.FieldType.int) ∈ lw_g := List.mem_filter.mpr ⟨mj_5 (List.mem_of_getElem? (i := 40) rfl), rfl⟩
theorem tw_1001 : Jvm.Cond.constantLong "LetHolesModel" (245 : Nat) (10 : Int64) ∈ lw_g := List.mem_filter.mpr ⟨mj_5 (List.mem_of_getElem? (i := 41) rfl), rfl⟩
theorem tw_1002 : Jvm.Cond.methodLink "LetHolesLaw" (122 : Nat) ({ cls := "LetHolesModel", name := "seed", desc := "(J)J" } : Jvm.MethodName) ∈ lw_g := List.mem_filter.mpr ⟨mj_5 (List.mem_of_getElem? (i := 42) rfl), rfl⟩
theorem tw_1003 : Jvm.Cond.instanceMethod ({ cls := "LetHolesModel", name := "seed", desc := "(J)J" } : Jvm.MethodName) ∈ lw_g := List.mem_filter.mpr ⟨mj_5 (List.mem_of_getElem? (i := 43) rfl), rfl⟩
theorem tw_1004 : Jvm.Cond.selects "LetHolesModel" ({ cls := "LetHolesModel", name := "seed", desc := "(J)J" } : Jvm.MethodName) ({ cls := "LetHolesModel", name := "seed", desc := "(J)J" } : Jvm.MethodName) ∈ lw_g := List.mem_filter.mpr ⟨mj_5 (List.mem_of_getElem? (i := 44) rfl), rfl⟩
theorem tw_1005 : Jvm.Cond.code ({ cls := "LetHolesModel", name := "seed", desc := "(J)J" } : Jvm.MethodName) prog_9_method_69_code (5 : Nat) (Option.some Jvm.ClassFile.FieldType.long) ∈ lw_g := List.mem_filter.mpr ⟨mj_5 (List.mem_of_getElem? (i := 45) rfl), rfl⟩
theorem tw_1006 : Jvm.Cond.methodLink "LetHolesLaw" (126 : Nat) ({ cls := "LetHolesModel", name := "years", desc := "(I)I" } : Jvm.MethodName) ∈ lw_g := List.mem_filter.mpr ⟨mj_5 (List.mem_of_getElem? (i := 46) rfl), rfl⟩
theorem tw_1007 : Jvm.Cond.instanceMethod ({ cls := "LetHolesModel", name := "years", desc := "(I)I" } : Jvm.MethodName) ∈ lw_g := List.mem_filter.mpr ⟨mj_5 (List.mem_of_getElem? (i := 47) rfl), rfl⟩
theorem tw_1008 : Jvm.Cond.selects "LetHolesModel" ({ cls := "LetHolesModel", name := "years", desc := "(I)I" } : Jvm.MethodName) ({ cls := "LetHolesModel", name := "years", desc := "(I)I" } : Jvm.MethodName) ∈ lw_g := List.mem_filter.mpr ⟨mj_5 (List.mem_of_getElem? (i := 48) rfl), rfl⟩
theorem tw_1009 : Jvm.Cond.code ({ cls := "LetHolesModel", name := "years", desc := "(I)I" } : Jvm.MethodName) prog_9_method_70_code (4 : Nat) (Option.some Jvm.ClassFile.FieldType.int) ∈ lw_g := List.mem_filter.mpr ⟨mj_5 (List.mem_of_getElem? (i := 49) rfl), rfl⟩
theorem tw_1010 : Jvm.Cond.constantLong "LetHolesModel" (251 : Nat) (30 : Int64) ∈ lw_g := List.mem_filter.mpr ⟨mj_5 (List.mem_of_getElem? (i := 50) rfl), rfl⟩
theorem tw_1011 : Jvm.Cond.constantLong "LetHolesModel" (253 : Nat) (6364136223846793005 : Int64) ∈ lw_g := List.mem_filter.mpr ⟨mj_5 (List.mem_of_getElem? (i := 51) rfl), rfl⟩
theorem tw_1012 : Jvm.Cond.constantLong "LetHolesModel" (255 : Nat) (1442695040888963407 : Int64) ∈ lw_g := List.mem_filter.mpr ⟨mj_5 (List.mem_of_getElem? (i := 52) rfl), rfl⟩
theorem tw_1013 : Jvm.Cond.constantLong "LetHolesModel" (257 : Nat) (28 : Int64) ∈ lw_g := List.mem_filter.mpr ⟨mj_5 (List.mem_of_getElem? (i := 53) rfl), rfl⟩
theorem tw_1014 : Jvm.Cond.methodLink "LetHolesLaw" (130 : Nat) ({ cls := "LetHolesModel", name := "keep", desc := "(I)I" } : Jvm.MethodName) ∈ lw_g := List.mem_filter.mpr ⟨mj_5 (List.mem_of_getElem? (i := 54) rfl), rfl⟩
theorem tw_1015 : Jvm.Cond.instanceMethod ({ cls := "LetHolesModel", name := "keep", desc := "(I)I" } : Jvm.MethodName) ∈ lw_g := List.mem_filter.mpr ⟨mj_5 (List.mem_of_getElem? (i := 55) rfl), rfl⟩
theorem tw_1016 : Jvm.Cond.selects "LetHolesModel" ({ cls := "LetHolesModel", name := "keep", desc := "(I)I" } : Jvm.MethodName) ({ cls := "LetHolesModel", name := "keep", desc := "(I)I" } : Jvm.MethodName) ∈ lw_g := List.mem_filter.mpr ⟨mj_5 (List.mem_of_getElem? (i := 56) rfl), rfl⟩
theorem tw_1017 : Jvm.Cond.code ({ cls := "LetHolesModel", name := "keep", desc := "(I)I" } : Jvm.MethodName) prog_9_method_71_code (3 : Nat) (Option.some Jvm.ClassFile.FieldType.int) ∈ lw_g := List.mem_filter.mpr ⟨mj_5 (List.mem_of_getElem? (i := 57) rfl), rfl⟩
theorem tw_1018 : Jvm.Cond.methodLink "LetHolesLaw" (134 : Nat) ({ cls := "LetHolesModel", name := "again", desc := "(I)I" } : Jvm.MethodName) ∈ lw_g := List.mem_filter.mpr ⟨mj_5 (List.mem_of_getElem? (i := 58) rfl), rfl⟩
theorem tw_1019 : Jvm.Cond.instanceMethod ({ cls := "LetHolesModel", name := "again", desc := "(I)I" } : Jvm.MethodName) ∈ lw_g := List.mem_filter.mpr ⟨mj_5 (List.mem_of_getElem? (i := 59) rfl), rfl⟩
theorem tw_1020 : Jvm.Cond.selects "LetHolesModel" ({ cls := "LetHolesModel", name := "again", desc := "(I)I" } : Jvm.MethodName) ({ cls := "LetHolesModel", name := "again", desc := "(I)I" } : Jvm.MethodName) ∈ lw_g := List.mem_filter.mpr ⟨mj_5 (List.mem_of_getElem? (i := 60) rfl), rfl⟩
theorem tw_1021 : Jvm.Cond.code ({ cls := "LetHolesModel", name := "again", desc := "(I)I" } : Jvm.MethodName) prog_9_method_72_code (3 : Nat) (Option.some Jvm.ClassFile.FieldType.int) ∈ lw_g := List.mem_filter.mpr ⟨mj_5 (List.mem_of_getElem? (i := 61) rfl), rfl⟩
theorem tw_1022 : Jvm.Cond.methodLink "LetHolesLaw" (138 : Nat) ({ cls := "LetHolesModel", name := "count", desc := "(I)I" } : Jvm.MethodName) ∈ lw_g := List.mem_filter.mpr ⟨mj_5 (List.mem_of_getElem? (i := 62) rfl), rfl⟩
theorem tw_1023 : Jvm.Cond.instanceMethod ({ cls := "LetHolesModel", name := "count", desc := "(I)I" } : Jvm.MethodName) ∈ lw_g := List.mem_filter.mpr ⟨mj_5 (List.mem_of_getElem? (i := 63) rfl), rfl⟩
theorem tw_1024 : Jvm.Cond.selects "LetHolesModel" ({ cls := "LetHolesModel", name := "count", desc := "(I)I" } : Jvm.MethodName) ({ cls := "LetHolesModel", name := "count", desc := "(I)I" } : Jvm.MethodName) ∈ lw_g := List.mem_filter.mpr ⟨mj_5 (List.mem_of_getElem? (i := 64) rfl), rfl⟩
theorem tw_1025 : Jvm.Cond.code ({ cls := "LetHolesModel", name := "count", desc := "(I)I" } : Jvm.MethodName) prog_9_method_73_code (2 : Nat) (Option.some Jvm.ClassFile.FieldType.int) ∈ lw_g := List.mem_filter.mpr ⟨mj_5 (List.mem_of_getElem? (i := 65) rfl), rfl⟩
theorem tw_1026 : Jvm.Cond.constantLong "LetHolesLaw" (85 : Nat) (4294967295 : Int64) ∈ lw_g := List.mem_filter.mpr ⟨mj_5 (List.mem_of_getElem? (i := 66) rfl), rfl⟩
theorem twp_0 : Cond.selects "LetHoles$Deeds" ⟨"LetHoles$Deeds", "forget", "()V"⟩ ⟨"LetHoles$Deeds", "forget", "()V"⟩ ∈ lw_g := List.mem_filter.mpr ⟨List.mem_append_left _ (List.mem_of_getElem? (i := 0) rfl), rfl⟩
theorem twp_1 : Cond.selects "LetHoles$Deeds" ⟨"LetHoles$Deeds", "reads", "(I)Z"⟩ ⟨"LetHoles$Deeds", "reads", "(I)Z"⟩ ∈ lw_g := List.mem_filter.mpr ⟨List.mem_append_left _ (List.mem_of_getElem? (i := 1) rfl), rfl⟩
theorem twp_2 : Cond.selects "LetHoles$Deeds" ⟨"LetHoles$Deeds", "opensPart", "(I)Z"⟩ ⟨"LetHoles$Deeds", "opensPart", "(I)Z"⟩ ∈ lw_g := List.mem_filter.mpr ⟨List.mem_append_left _ (List.mem_of_getElem? (i := 2) rfl), rfl⟩
theorem twp_3 : Cond.selects "LetHoles$Deeds" ⟨"LetHoles$Deeds", "readsOwner", "(I)Z"⟩ ⟨"LetHoles$Deeds", "readsOwner", "(I)Z"⟩ ∈ lw_g := List.mem_filter.mpr ⟨List.mem_append_left _ (List.mem_of_getElem? (i := 3) rfl), rfl⟩
theorem twp_4 : Cond.selects "LetHoles$Deeds" ⟨"LetHoles$Deeds", "readsRow", "(I)Z"⟩ ⟨"LetHoles$Deeds", "readsRow", "(I)Z"⟩ ∈ lw_g := List.mem_filter.mpr ⟨List.mem_append_left _ (List.mem_of_getElem? (i := 4) rfl), rfl⟩
theorem twp_5 : Cond.selects "LetHoles$Deeds" ⟨"LetHoles$Deeds", "readsHole", "(I)Z"⟩ ⟨"LetHoles$Deeds", "readsHole", "(I)Z"⟩ ∈ lw_g := List.mem_filter.mpr ⟨List.mem_append_left _ (List.mem_of_getElem? (i := 5) rfl), rfl⟩
theorem twp_6 : Cond.selects "LetHoles$Deeds" ⟨"LetHoles$Deeds", "addHole", "(III)V"⟩ ⟨"LetHoles$Deeds", "addHole", "(III)V"⟩ ∈ lw_g := List.mem_filter.mpr ⟨List.mem_append_left _ (List.mem_of_getElem? (i := 6) rfl), rfl⟩
theorem twp_7 : Cond.selects "LetHoles$Acts" ⟨"LetHoles$Acts", "forgetFirst", "()V"⟩ ⟨"LetHoles$Acts", "forgetFirst", "()V"⟩ ∈ lw_g := List.mem_filter.mpr ⟨List.mem_append_left _ (List.mem_of_getElem? (i := 7) rfl), rfl⟩
theorem twp_8 : Cond.selects "LetHoles$Acts" ⟨"LetHoles$Acts", "wheelAt", "(I)LLetHoles$Wheel;"⟩ ⟨"LetHoles$Acts", "wheelAt", "(I)LLetHoles$Wheel;"⟩ ∈ lw_g := List.mem_filter.mpr ⟨List.mem_append_left _ (List.mem_of_getElem? (i := 8) rfl), rfl⟩
theorem twp_9 : Cond.selects "LetHoles$Wheel" ⟨"LetHoles$Wheel", "takeLeast", "(LLetHoles$Deeds;I)V"⟩ ⟨"LetHoles$Wheel", "takeLeast", "(LLetHoles$Deeds;I)V"⟩ ∈ lw_g := List.mem_filter.mpr ⟨List.mem_append_left _ (List.mem_of_getElem? (i := 9) rfl), rfl⟩
theorem twp_10 : Cond.selects "LetHoles$Wheel" ⟨"LetHoles$Wheel", "pay", "(III)V"⟩ ⟨"LetHoles$Wheel", "pay", "(III)V"⟩ ∈ lw_g := List.mem_filter.mpr ⟨List.mem_append_left _ (List.mem_of_getElem? (i := 10) rfl), rfl⟩
theorem twp_11 : Cond.selects "LetHoles$Wheel" ⟨"LetHoles$Wheel", "joinFirstPair", "()Z"⟩ ⟨"LetHoles$Wheel", "joinFirstPair", "()Z"⟩ ∈ lw_g := List.mem_filter.mpr ⟨List.mem_append_left _ (List.mem_of_getElem? (i := 11) rfl), rfl⟩
theorem twp_12 : Cond.selects "LetHoles$Wheel" ⟨"LetHoles$Wheel", "joinPair", "(II)V"⟩ ⟨"LetHoles$Wheel", "joinPair", "(II)V"⟩ ∈ lw_g := List.mem_filter.mpr ⟨List.mem_append_left _ (List.mem_of_getElem? (i := 12) rfl), rfl⟩
theorem twp_13 : Cond.selects "LetHoles$Wheel" ⟨"LetHoles$Wheel", "endOwning", "(I)V"⟩ ⟨"LetHoles$Wheel", "endOwning", "(I)V"⟩ ∈ lw_g := List.mem_filter.mpr ⟨List.mem_append_left _ (List.mem_of_getElem? (i := 13) rfl), rfl⟩
theorem twp_14 : Cond.selects "LetHoles$Wheel" ⟨"LetHoles$Wheel", "payRent", "(LLetHoles$Deeds;I)V"⟩ ⟨"LetHoles$Wheel", "payRent", "(LLetHoles$Deeds;I)V"⟩ ∈ lw_g := List.mem_filter.mpr ⟨List.mem_append_left _ (List.mem_of_getElem? (i := 14) rfl), rfl⟩
theorem twp_15 : Cond.selects "LetHoles" ⟨"LetHoles", "mayHaveBegun", "(I)Z"⟩ ⟨"LetHoles", "mayHaveBegun", "(I)Z"⟩ ∈ lw_g := List.mem_filter.mpr ⟨List.mem_append_left _ (List.mem_of_getElem? (i := 15) rfl), rfl⟩
theorem twp_16 : Cond.selects "LetHoles" ⟨"LetHoles", "largestEstate", "(I)I"⟩ ⟨"LetHoles", "largestEstate", "(I)I"⟩ ∈ lw_g := List.mem_filter.mpr ⟨List.mem_append_left _ (List.mem_of_getElem? (i := 16) rfl), rfl⟩
theorem twp_17 : Cond.selects "LetHoles" ⟨"LetHoles", "slotAt", "(I)LLetHoles$Wheel;"⟩ ⟨"LetHoles", "slotAt", "(I)LLetHoles$Wheel;"⟩ ∈ lw_g := List.mem_filter.mpr ⟨List.mem_append_left _ (List.mem_of_getElem? (i := 17) rfl), rfl⟩
theorem twp_18 : Cond.selects "LetHolesModel" ⟨"LetHolesModel", "readText", "()I"⟩ ⟨"LetHolesModel", "readText", "()I"⟩ ∈ lw_g := List.mem_filter.mpr ⟨List.mem_append_left _ (List.mem_of_getElem? (i := 18) rfl), rfl⟩
theorem twp_19 : Cond.selects "LetHolesModel" ⟨"LetHolesModel", "readPart", "(I)V"⟩ ⟨"LetHolesModel", "readPart", "(I)V"⟩ ∈ lw_g := List.mem_filter.mpr ⟨List.mem_append_left _ (List.mem_of_getElem? (i := 19) rfl), rfl⟩
theorem twp_20 : Cond.selects "LetHolesModel" ⟨"LetHolesModel", "told", "(II)I"⟩ ⟨"LetHolesModel", "told", "(II)I"⟩ ∈ lw_g := List.mem_filter.mpr ⟨List.mem_append_left _ (List.mem_of_getElem? (i := 20) rfl), rfl⟩
theorem twp_21 : Cond.selects "LetHolesModel" ⟨"LetHolesModel", "isOwner", "(I)Z"⟩ ⟨"LetHolesModel", "isOwner", "(I)Z"⟩ ∈ lw_g := List.mem_filter.mpr ⟨List.mem_append_left _ (List.mem_of_getElem? (i := 21) rfl), rfl⟩
theorem twp_22 : Cond.selects "LetHolesModel" ⟨"LetHolesModel", "estate", "(I)I"⟩ ⟨"LetHolesModel", "estate", "(I)I"⟩ ∈ lw_g := List.mem_filter.mpr ⟨List.mem_append_left _ (List.mem_of_getElem? (i := 22) rfl), rfl⟩
theorem twp_23 : Cond.selects "LetHolesModel" ⟨"LetHolesModel", "ownerOf", "(II)I"⟩ ⟨"LetHolesModel", "ownerOf", "(II)I"⟩ ∈ lw_g := List.mem_filter.mpr ⟨List.mem_append_left _ (List.mem_of_getElem? (i := 23) rfl), rfl⟩
theorem twp_24 : Cond.selects "LetHolesModel" ⟨"LetHolesModel", "isHole", "(I)Z"⟩ ⟨"LetHolesModel", "isHole", "(I)Z"⟩ ∈ lw_g := List.mem_filter.mpr ⟨List.mem_append_left _ (List.mem_of_getElem? (i := 24) rfl), rfl⟩
theorem twp_25 : Cond.selects "LetHolesModel" ⟨"LetHolesModel", "of", "(II)I"⟩ ⟨"LetHolesModel", "of", "(II)I"⟩ ∈ lw_g := List.mem_filter.mpr ⟨List.mem_append_left _ (List.mem_of_getElem? (i := 25) rfl), rfl⟩
theorem twp_26 : Cond.selects "LetHolesModel" ⟨"LetHolesModel", "keepAct", "()V"⟩ ⟨"LetHolesModel", "keepAct", "()V"⟩ ∈ lw_g := List.mem_filter.mpr ⟨List.mem_append_left _ (List.mem_of_getElem? (i := 26) rfl), rfl⟩
theorem twp_27 : Cond.selects "LetHolesModel" ⟨"LetHolesModel", "passOn", "(I)I"⟩ ⟨"LetHolesModel", "passOn", "(I)I"⟩ ∈ lw_g := List.mem_filter.mpr ⟨List.mem_append_left _ (List.mem_of_getElem? (i := 27) rfl), rfl⟩
theorem twp_28 : Cond.selects "LetHolesModel" ⟨"LetHolesModel", "grow", "(II)V"⟩ ⟨"LetHolesModel", "grow", "(II)V"⟩ ∈ lw_g := List.mem_filter.mpr ⟨List.mem_append_left _ (List.mem_of_getElem? (i := 28) rfl), rfl⟩
theorem twp_29 : Cond.selects "LetHolesModel" ⟨"LetHolesModel", "freePaste", "(I)I"⟩ ⟨"LetHolesModel", "freePaste", "(I)I"⟩ ∈ lw_g := List.mem_filter.mpr ⟨List.mem_append_left _ (List.mem_of_getElem? (i := 29) rfl), rfl⟩
theorem twp_30 : Cond.selects "LetHolesModel" ⟨"LetHolesModel", "isMonks", "(I)Z"⟩ ⟨"LetHolesModel", "isMonks", "(I)Z"⟩ ∈ lw_g := List.mem_filter.mpr ⟨List.mem_append_left _ (List.mem_of_getElem? (i := 30) rfl), rfl⟩
theorem twp_31 : Cond.selects "LetHolesModel" ⟨"LetHolesModel", "takes", "(III)I"⟩ ⟨"LetHolesModel", "takes", "(III)I"⟩ ∈ lw_g := List.mem_filter.mpr ⟨List.mem_append_left _ (List.mem_of_getElem? (i := 31) rfl), rfl⟩
theorem twp_32 : Cond.selects "LetHolesModel" ⟨"LetHolesModel", "pay", "(IIII)V"⟩ ⟨"LetHolesModel", "pay", "(IIII)V"⟩ ∈ lw_g := List.mem_filter.mpr ⟨List.mem_append_left _ (List.mem_of_getElem? (i := 32) rfl), rfl⟩
theorem twp_33 : Cond.selects "LetHolesModel" ⟨"LetHolesModel", "wed", "(I)Z"⟩ ⟨"LetHolesModel", "wed", "(I)Z"⟩ ∈ lw_g := List.mem_filter.mpr ⟨List.mem_append_left _ (List.mem_of_getElem? (i := 33) rfl), rfl⟩
theorem twp_34 : Cond.selects "LetHolesModel" ⟨"LetHolesModel", "join", "(III)V"⟩ ⟨"LetHolesModel", "join", "(III)V"⟩ ∈ lw_g := List.mem_filter.mpr ⟨List.mem_append_left _ (List.mem_of_getElem? (i := 34) rfl), rfl⟩
theorem twp_35 : Cond.selects "LetHolesModel" ⟨"LetHolesModel", "endHole", "(II)V"⟩ ⟨"LetHolesModel", "endHole", "(II)V"⟩ ∈ lw_g := List.mem_filter.mpr ⟨List.mem_append_left _ (List.mem_of_getElem? (i := 35) rfl), rfl⟩
theorem twp_36 : Cond.selects "LetHolesModel" ⟨"LetHolesModel", "canEat", "(III)Z"⟩ ⟨"LetHolesModel", "canEat", "(III)Z"⟩ ∈ lw_g := List.mem_filter.mpr ⟨List.mem_append_left _ (List.mem_of_getElem? (i := 36) rfl), rfl⟩
theorem twp_37 : Cond.selects "LetHolesModel" ⟨"LetHolesModel", "eatOn", "(III)I"⟩ ⟨"LetHolesModel", "eatOn", "(III)I"⟩ ∈ lw_g := List.mem_filter.mpr ⟨List.mem_append_left _ (List.mem_of_getElem? (i := 37) rfl), rfl⟩
theorem twp_38 : Cond.selects "LetHolesModel" ⟨"LetHolesModel", "canLet", "(III)Z"⟩ ⟨"LetHolesModel", "canLet", "(III)Z"⟩ ∈ lw_g := List.mem_filter.mpr ⟨List.mem_append_left _ (List.mem_of_getElem? (i := 38) rfl), rfl⟩
theorem twp_39 : Cond.selects "LetHolesModel" ⟨"LetHolesModel", "canSell", "(III)Z"⟩ ⟨"LetHolesModel", "canSell", "(III)Z"⟩ ∈ lw_g := List.mem_filter.mpr ⟨List.mem_append_left _ (List.mem_of_getElem? (i := 39) rfl), rfl⟩
theorem twp_40 : Cond.selects "LetHolesModel" ⟨"LetHolesModel", "sellOn", "(III)I"⟩ ⟨"LetHolesModel", "sellOn", "(III)I"⟩ ∈ lw_g := List.mem_filter.mpr ⟨List.mem_append_left _ (List.mem_of_getElem? (i := 40) rfl), rfl⟩
theorem twp_41 : Cond.selects "LetHolesModel" ⟨"LetHolesModel", "costOf", "(I)I"⟩ ⟨"LetHolesModel", "costOf", "(I)I"⟩ ∈ lw_g := List.mem_filter.mpr ⟨List.mem_append_left _ (List.mem_of_getElem? (i := 41) rfl), rfl⟩
theorem twp_42 : Cond.selects "LetHolesModel" ⟨"LetHolesModel", "ease", "(I)Z"⟩ ⟨"LetHolesModel", "ease", "(I)Z"⟩ ∈ lw_g := List.mem_filter.mpr ⟨List.mem_append_left _ (List.mem_of_getElem? (i := 42) rfl), rfl⟩
theorem twp_43 : Cond.selects "LetHolesModel" ⟨"LetHolesModel", "layTrial", "()V"⟩ ⟨"LetHolesModel", "layTrial", "()V"⟩ ∈ lw_g := List.mem_filter.mpr ⟨List.mem_append_left _ (List.mem_of_getElem? (i := 43) rfl), rfl⟩
theorem twp_44 : Cond.selects "LetHolesModel" ⟨"LetHolesModel", "alive", "(I)I"⟩ ⟨"LetHolesModel", "alive", "(I)I"⟩ ∈ lw_g := List.mem_filter.mpr ⟨List.mem_append_left _ (List.mem_of_getElem? (i := 44) rfl), rfl⟩
theorem twp_45 : Cond.selects "LetHolesModel" ⟨"LetHolesModel", "tryThing", "(III)Z"⟩ ⟨"LetHolesModel", "tryThing", "(III)Z"⟩ ∈ lw_g := List.mem_filter.mpr ⟨List.mem_append_left _ (List.mem_of_getElem? (i := 45) rfl), rfl⟩
theorem twp_46 : Cond.selects "LetHolesModel" ⟨"LetHolesModel", "mayBegin", "(II)Z"⟩ ⟨"LetHolesModel", "mayBegin", "(II)Z"⟩ ∈ lw_g := List.mem_filter.mpr ⟨List.mem_append_left _ (List.mem_of_getElem? (i := 46) rfl), rfl⟩
theorem twp_47 : Cond.selects "LetHolesModel" ⟨"LetHolesModel", "largest", "(I)I"⟩ ⟨"LetHolesModel", "largest", "(I)I"⟩ ∈ lw_g := List.mem_filter.mpr ⟨List.mem_append_left _ (List.mem_of_getElem? (i := 47) rfl), rfl⟩
theorem twp_48 : Cond.selects "LetHolesModel" ⟨"LetHolesModel", "gain", "(III)I"⟩ ⟨"LetHolesModel", "gain", "(III)I"⟩ ∈ lw_g := List.mem_filter.mpr ⟨List.mem_append_left _ (List.mem_of_getElem? (i := 48) rfl), rfl⟩
theorem twp_49 : Cond.selects "LetHolesModel" ⟨"LetHolesModel", "holeCells", "(I)I"⟩ ⟨"LetHolesModel", "holeCells", "(I)I"⟩ ∈ lw_g := List.mem_filter.mpr ⟨List.mem_append_left _ (List.mem_of_getElem? (i := 49) rfl), rfl⟩
theorem hd_X0_init : yX0_init.cls ≠ "java/lang/invoke/MethodHandle" ∧ yX0_init.cls ≠ "java/lang/invoke/VarHandle" ∧ (parseMethodDescriptor yX0_init.desc).map (fun d => d.parameters.length) = some 0 := by decide +kernel
theorem hd_X0_forgetAll : yX0_forgetAll.cls ≠ "java/lang/invoke/MethodHandle" ∧ yX0_forgetAll.cls ≠ "java/lang/invoke/VarHandle" ∧ (parseMethodDescriptor yX0_forgetAll.desc).map (fun d => d.parameters.length) = some 0 := by decide +kernel
theorem hd_X0_remember : yX0_remember.cls ≠ "java/lang/invoke/MethodHandle" ∧ yX0_remember.cls ≠ "java/lang/invoke/VarHandle" ∧ (parseMethodDescriptor yX0_remember.desc).map (fun d => d.parameters.length) = some 1 := by decide +kernel
theorem hd_X0_forgetFirst : yX0_forgetFirst.cls ≠ "java/lang/invoke/MethodHandle" ∧ yX0_forgetFirst.cls ≠ "java/lang/invoke/VarHandle" ∧ (parseMethodDescriptor yX0_forgetFirst.desc).map (fun d => d.parameters.length) = some 0 := by decide +kernel
theorem hd_X0_takeBack : yX0_takeBack.cls ≠ "java/lang/invoke/MethodHandle" ∧ yX0_takeBack.cls ≠ "java/lang/invoke/VarHandle" ∧ (parseMethodDescriptor yX0_takeBack.desc).map (fun d => d.parameters.length) = some 1 := by decide +kernel
theorem hd_X0_wheelAt : yX0_wheelAt.cls ≠ "java/lang/invoke/MethodHandle" ∧ yX0_wheelAt.cls ≠ "java/lang/invoke/VarHandle" ∧ (parseMethodDescriptor yX0_wheelAt.desc).map (fun d => d.parameters.length) = some 1 := by decide +kernel
theorem hd_X1_init : yX1_init.cls ≠ "java/lang/invoke/MethodHandle" ∧ yX1_init.cls ≠ "java/lang/invoke/VarHandle" ∧ (parseMethodDescriptor yX1_init.desc).map (fun d => d.parameters.length) = some 0 := by decide +kernel
theorem hd_X1_hasOwner : yX1_hasOwner.cls ≠ "java/lang/invoke/MethodHandle" ∧ yX1_hasOwner.cls ≠ "java/lang/invoke/VarHandle" ∧ (parseMethodDescriptor yX1_hasOwner.desc).map (fun d => d.parameters.length) = some 1 := by decide +kernel
theorem hd_X1_hasHole : yX1_hasHole.cls ≠ "java/lang/invoke/MethodHandle" ∧ yX1_hasHole.cls ≠ "java/lang/invoke/VarHandle" ∧ (parseMethodDescriptor yX1_hasHole.desc).map (fun d => d.parameters.length) = some 1 := by decide +kernel
theorem hd_X1_rowsOf : yX1_rowsOf.cls ≠ "java/lang/invoke/MethodHandle" ∧ yX1_rowsOf.cls ≠ "java/lang/invoke/VarHandle" ∧ (parseMethodDescriptor yX1_rowsOf.desc).map (fun d => d.parameters.length) = some 1 := by decide +kernel
theorem hd_X1_rowCellsOf : yX1_rowCellsOf.cls ≠ "java/lang/invoke/MethodHandle" ∧ yX1_rowCellsOf.cls ≠ "java/lang/invoke/VarHandle" ∧ (parseMethodDescriptor yX1_rowCellsOf.desc).map (fun d => d.parameters.length) = some 1 := by decide +kernel
theorem hd_X1_turnsOf : yX1_turnsOf.cls ≠ "java/lang/invoke/MethodHandle" ∧ yX1_turnsOf.cls ≠ "java/lang/invoke/VarHandle" ∧ (parseMethodDescriptor yX1_turnsOf.desc).map (fun d => d.parameters.length) = some 1 := by decide +kernel
theorem hd_X1_tellLoneHole : yX1_tellLoneHole.cls ≠ "java/lang/invoke/MethodHandle" ∧ yX1_tellLoneHole.cls ≠ "java/lang/invoke/VarHandle" ∧ (parseMethodDescriptor yX1_tellLoneHole.desc).map (fun d => d.parameters.length) = some 1 := by decide +kernel
theorem hd_X1_forget : yX1_forget.cls ≠ "java/lang/invoke/MethodHandle" ∧ yX1_forget.cls ≠ "java/lang/invoke/VarHandle" ∧ (parseMethodDescriptor yX1_forget.desc).map (fun d => d.parameters.length) = some 0 := by decide +kernel
theorem hd_X1_readAll : yX1_readAll.cls ≠ "java/lang/invoke/MethodHandle" ∧ yX1_readAll.cls ≠ "java/lang/invoke/VarHandle" ∧ (parseMethodDescriptor yX1_readAll.desc).map (fun d => d.parameters.length) = some 2 := by decide +kernel
theorem hd_X1_reads : yX1_reads.cls ≠ "java/lang/invoke/MethodHandle" ∧ yX1_reads.cls ≠ "java/lang/invoke/VarHandle" ∧ (parseMethodDescriptor yX1_reads.desc).map (fun d => d.parameters.length) = some 1 := by decide +kernel
theorem hd_X1_opensPart : yX1_opensPart.cls ≠ "java/lang/invoke/MethodHandle" ∧ yX1_opensPart.cls ≠ "java/lang/invoke/VarHandle" ∧ (parseMethodDescriptor yX1_opensPart.desc).map (fun d => d.parameters.length) = some 1 := by decide +kernel
theorem hd_X1_readsOwner : yX1_readsOwner.cls ≠ "java/lang/invoke/MethodHandle" ∧ yX1_readsOwner.cls ≠ "java/lang/invoke/VarHandle" ∧ (parseMethodDescriptor yX1_readsOwner.desc).map (fun d => d.parameters.length) = some 1 := by decide +kernel
theorem hd_X1_readsRow : yX1_readsRow.cls ≠ "java/lang/invoke/MethodHandle" ∧ yX1_readsRow.cls ≠ "java/lang/invoke/VarHandle" ∧ (parseMethodDescriptor yX1_readsRow.desc).map (fun d => d.parameters.length) = some 1 := by decide +kernel
theorem hd_X1_readsHole : yX1_readsHole.cls ≠ "java/lang/invoke/MethodHandle" ∧ yX1_readsHole.cls ≠ "java/lang/invoke/VarHandle" ∧ (parseMethodDescriptor yX1_readsHole.desc).map (fun d => d.parameters.length) = some 1 := by decide +kernel
theorem hd_X1_addHole : yX1_addHole.cls ≠ "java/lang/invoke/MethodHandle" ∧ yX1_addHole.cls ≠ "java/lang/invoke/VarHandle" ∧ (parseMethodDescriptor yX1_addHole.desc).map (fun d => d.parameters.length) = some 3 := by decide +kernel
theorem hd_X2_hasCell : yX2_hasCell.cls ≠ "java/lang/invoke/MethodHandle" ∧ yX2_hasCell.cls ≠ "java/lang/invoke/VarHandle" ∧ (parseMethodDescriptor yX2_hasCell.desc).map (fun d => d.parameters.length) = some 1 := by decide +kernel
theorem hd_X2_bitOf : yX2_bitOf.cls ≠ "java/lang/invoke/MethodHandle" ∧ yX2_bitOf.cls ≠ "java/lang/invoke/VarHandle" ∧ (parseMethodDescriptor yX2_bitOf.desc).map (fun d => d.parameters.length) = some 1 := by decide +kernel
theorem hd_X2_rowCells : yX2_rowCells.cls ≠ "java/lang/invoke/MethodHandle" ∧ yX2_rowCells.cls ≠ "java/lang/invoke/VarHandle" ∧ (parseMethodDescriptor yX2_rowCells.desc).map (fun d => d.parameters.length) = some 1 := by decide +kernel
theorem hd_X2_cellsLeftOf : yX2_cellsLeftOf.cls ≠ "java/lang/invoke/MethodHandle" ∧ yX2_cellsLeftOf.cls ≠ "java/lang/invoke/VarHandle" ∧ (parseMethodDescriptor yX2_cellsLeftOf.desc).map (fun d => d.parameters.length) = some 1 := by decide +kernel
theorem hd_X2_leastOf : yX2_leastOf.cls ≠ "java/lang/invoke/MethodHandle" ∧ yX2_leastOf.cls ≠ "java/lang/invoke/VarHandle" ∧ (parseMethodDescriptor yX2_leastOf.desc).map (fun d => d.parameters.length) = some 1 := by decide +kernel
theorem hd_X2_beside : yX2_beside.cls ≠ "java/lang/invoke/MethodHandle" ∧ yX2_beside.cls ≠ "java/lang/invoke/VarHandle" ∧ (parseMethodDescriptor yX2_beside.desc).map (fun d => d.parameters.length) = some 1 := by decide +kernel
theorem hd_X2_columnsOf : yX2_columnsOf.cls ≠ "java/lang/invoke/MethodHandle" ∧ yX2_columnsOf.cls ≠ "java/lang/invoke/VarHandle" ∧ (parseMethodDescriptor yX2_columnsOf.desc).map (fun d => d.parameters.length) = some 1 := by decide +kernel
theorem hd_X2_flood : yX2_flood.cls ≠ "java/lang/invoke/MethodHandle" ∧ yX2_flood.cls ≠ "java/lang/invoke/VarHandle" ∧ (parseMethodDescriptor yX2_flood.desc).map (fun d => d.parameters.length) = some 2 := by decide +kernel
theorem hd_X2_largestPatch : yX2_largestPatch.cls ≠ "java/lang/invoke/MethodHandle" ∧ yX2_largestPatch.cls ≠ "java/lang/invoke/VarHandle" ∧ (parseMethodDescriptor yX2_largestPatch.desc).map (fun d => d.parameters.length) = some 1 := by decide +kernel
theorem hd_X2_steps : yX2_steps.cls ≠ "java/lang/invoke/MethodHandle" ∧ yX2_steps.cls ≠ "java/lang/invoke/VarHandle" ∧ (parseMethodDescriptor yX2_steps.desc).map (fun d => d.parameters.length) = some 3 := by decide +kernel
theorem hd_X2_fewestGnawed : yX2_fewestGnawed.cls ≠ "java/lang/invoke/MethodHandle" ∧ yX2_fewestGnawed.cls ≠ "java/lang/invoke/VarHandle" ∧ (parseMethodDescriptor yX2_fewestGnawed.desc).map (fun d => d.parameters.length) = some 4 := by decide +kernel
theorem hd_X3_get : yX3_get.cls ≠ "java/lang/invoke/MethodHandle" ∧ yX3_get.cls ≠ "java/lang/invoke/VarHandle" ∧ (parseMethodDescriptor yX3_get.desc).map (fun d => d.parameters.length) = some 2 := by decide +kernel
theorem hd_X3_put : yX3_put.cls ≠ "java/lang/invoke/MethodHandle" ∧ yX3_put.cls ≠ "java/lang/invoke/VarHandle" ∧ (parseMethodDescriptor yX3_put.desc).map (fun d => d.parameters.length) = some 3 := by decide +kernel
theorem hd_X3_add : yX3_add.cls ≠ "java/lang/invoke/MethodHandle" ∧ yX3_add.cls ≠ "java/lang/invoke/VarHandle" ∧ (parseMethodDescriptor yX3_add.desc).map (fun d => d.parameters.length) = some 3 := by decide +kernel
theorem hd_X4_init : yX4_init.cls ≠ "java/lang/invoke/MethodHandle" ∧ yX4_init.cls ≠ "java/lang/invoke/VarHandle" ∧ (parseMethodDescriptor yX4_init.desc).map (fun d => d.parameters.length) = some 0 := by decide +kernel
theorem hd_X4_addOne : yX4_addOne.cls ≠ "java/lang/invoke/MethodHandle" ∧ yX4_addOne.cls ≠ "java/lang/invoke/VarHandle" ∧ (parseMethodDescriptor yX4_addOne.desc).map (fun d => d.parameters.length) = some 3 := by decide +kernel
theorem hd_X4_agrees : yX4_agrees.cls ≠ "java/lang/invoke/MethodHandle" ∧ yX4_agrees.cls ≠ "java/lang/invoke/VarHandle" ∧ (parseMethodDescriptor yX4_agrees.desc).map (fun d => d.parameters.length) = some 2 := by decide +kernel
theorem hd_X5_init : yX5_init.cls ≠ "java/lang/invoke/MethodHandle" ∧ yX5_init.cls ≠ "java/lang/invoke/VarHandle" ∧ (parseMethodDescriptor yX5_init.desc).map (fun d => d.parameters.length) = some 0 := by decide +kernel
theorem hd_X5_copyFrom : yX5_copyFrom.cls ≠ "java/lang/invoke/MethodHandle" ∧ yX5_copyFrom.cls ≠ "java/lang/invoke/VarHandle" ∧ (parseMethodDescriptor yX5_copyFrom.desc).map (fun d => d.parameters.length) = some 1 := by decide +kernel
theorem hd_X5_beginWith : yX5_beginWith.cls ≠ "java/lang/invoke/MethodHandle" ∧ yX5_beginWith.cls ≠ "java/lang/invoke/VarHandle" ∧ (parseMethodDescriptor yX5_beginWith.desc).map (fun d => d.parameters.length) = some 1 := by decide +kernel
theorem hd_X5_putLoneHole : yX5_putLoneHole.cls ≠ "java/lang/invoke/MethodHandle" ∧ yX5_putLoneHole.cls ≠ "java/lang/invoke/VarHandle" ∧ (parseMethodDescriptor yX5_putLoneHole.desc).map (fun d => d.parameters.length) = some 1 := by decide +kernel
theorem hd_X5_cellsOfHole : yX5_cellsOfHole.cls ≠ "java/lang/invoke/MethodHandle" ∧ yX5_cellsOfHole.cls ≠ "java/lang/invoke/VarHandle" ∧ (parseMethodDescriptor yX5_cellsOfHole.desc).map (fun d => d.parameters.length) = some 1 := by decide +kernel
theorem hd_X5_sizeOfHole : yX5_sizeOfHole.cls ≠ "java/lang/invoke/MethodHandle" ∧ yX5_sizeOfHole.cls ≠ "java/lang/invoke/VarHandle" ∧ (parseMethodDescriptor yX5_sizeOfHole.desc).map (fun d => d.parameters.length) = some 1 := by decide +kernel
theorem hd_X5_isGone : yX5_isGone.cls ≠ "java/lang/invoke/MethodHandle" ∧ yX5_isGone.cls ≠ "java/lang/invoke/VarHandle" ∧ (parseMethodDescriptor yX5_isGone.desc).map (fun d => d.parameters.length) = some 1 := by decide +kernel
theorem hd_X5_holesLeft : yX5_holesLeft.cls ≠ "java/lang/invoke/MethodHandle" ∧ yX5_holesLeft.cls ≠ "java/lang/invoke/VarHandle" ∧ (parseMethodDescriptor yX5_holesLeft.desc).map (fun d => d.parameters.length) = some 0 := by decide +kernel
theorem hd_X5_holesOf : yX5_holesOf.cls ≠ "java/lang/invoke/MethodHandle" ∧ yX5_holesOf.cls ≠ "java/lang/invoke/VarHandle" ∧ (parseMethodDescriptor yX5_holesOf.desc).map (fun d => d.parameters.length) = some 1 := by decide +kernel
theorem hd_X5_cellsOfHoles : yX5_cellsOfHoles.cls ≠ "java/lang/invoke/MethodHandle" ∧ yX5_cellsOfHoles.cls ≠ "java/lang/invoke/VarHandle" ∧ (parseMethodDescriptor yX5_cellsOfHoles.desc).map (fun d => d.parameters.length) = some 1 := by decide +kernel
theorem hd_X5_holeCells : yX5_holeCells.cls ≠ "java/lang/invoke/MethodHandle" ∧ yX5_holeCells.cls ≠ "java/lang/invoke/VarHandle" ∧ (parseMethodDescriptor yX5_holeCells.desc).map (fun d => d.parameters.length) = some 0 := by decide +kernel
theorem hd_X5_holeCellsOf : yX5_holeCellsOf.cls ≠ "java/lang/invoke/MethodHandle" ∧ yX5_holeCellsOf.cls ≠ "java/lang/invoke/VarHandle" ∧ (parseMethodDescriptor yX5_holeCellsOf.desc).map (fun d => d.parameters.length) = some 1 := by decide +kernel
theorem hd_X5_openCells : yX5_openCells.cls ≠ "java/lang/invoke/MethodHandle" ∧ yX5_openCells.cls ≠ "java/lang/invoke/VarHandle" ∧ (parseMethodDescriptor yX5_openCells.desc).map (fun d => d.parameters.length) = some 0 := by decide +kernel
theorem hd_X5_openBut : yX5_openBut.cls ≠ "java/lang/invoke/MethodHandle" ∧ yX5_openBut.cls ≠ "java/lang/invoke/VarHandle" ∧ (parseMethodDescriptor yX5_openBut.desc).map (fun d => d.parameters.length) = some 1 := by decide +kernel
theorem hd_X5_pasteCells : yX5_pasteCells.cls ≠ "java/lang/invoke/MethodHandle" ∧ yX5_pasteCells.cls ≠ "java/lang/invoke/VarHandle" ∧ (parseMethodDescriptor yX5_pasteCells.desc).map (fun d => d.parameters.length) = some 0 := by decide +kernel
theorem hd_X5_softPaste : yX5_softPaste.cls ≠ "java/lang/invoke/MethodHandle" ∧ yX5_softPaste.cls ≠ "java/lang/invoke/VarHandle" ∧ (parseMethodDescriptor yX5_softPaste.desc).map (fun d => d.parameters.length) = some 1 := by decide +kernel
theorem hd_X5_ownedBy : yX5_ownedBy.cls ≠ "java/lang/invoke/MethodHandle" ∧ yX5_ownedBy.cls ≠ "java/lang/invoke/VarHandle" ∧ (parseMethodDescriptor yX5_ownedBy.desc).map (fun d => d.parameters.length) = some 2 := by decide +kernel
theorem hd_X5_stuffAt : yX5_stuffAt.cls ≠ "java/lang/invoke/MethodHandle" ∧ yX5_stuffAt.cls ≠ "java/lang/invoke/VarHandle" ∧ (parseMethodDescriptor yX5_stuffAt.desc).map (fun d => d.parameters.length) = some 1 := by decide +kernel
theorem hd_X5_holeAt : yX5_holeAt.cls ≠ "java/lang/invoke/MethodHandle" ∧ yX5_holeAt.cls ≠ "java/lang/invoke/VarHandle" ∧ (parseMethodDescriptor yX5_holeAt.desc).map (fun d => d.parameters.length) = some 1 := by decide +kernel
theorem hd_X5_ownerAt : yX5_ownerAt.cls ≠ "java/lang/invoke/MethodHandle" ∧ yX5_ownerAt.cls ≠ "java/lang/invoke/VarHandle" ∧ (parseMethodDescriptor yX5_ownerAt.desc).map (fun d => d.parameters.length) = some 2 := by decide +kernel
theorem hd_X5_pay : yX5_pay.cls ≠ "java/lang/invoke/MethodHandle" ∧ yX5_pay.cls ≠ "java/lang/invoke/VarHandle" ∧ (parseMethodDescriptor yX5_pay.desc).map (fun d => d.parameters.length) = some 3 := by decide +kernel
theorem hd_X5_passDay : yX5_passDay.cls ≠ "java/lang/invoke/MethodHandle" ∧ yX5_passDay.cls ≠ "java/lang/invoke/VarHandle" ∧ (parseMethodDescriptor yX5_passDay.desc).map (fun d => d.parameters.length) = some 1 := by decide +kernel
theorem hd_X5_takeLeast : yX5_takeLeast.cls ≠ "java/lang/invoke/MethodHandle" ∧ yX5_takeLeast.cls ≠ "java/lang/invoke/VarHandle" ∧ (parseMethodDescriptor yX5_takeLeast.desc).map (fun d => d.parameters.length) = some 2 := by decide +kernel
theorem hd_X5_joinFirstPair : yX5_joinFirstPair.cls ≠ "java/lang/invoke/MethodHandle" ∧ yX5_joinFirstPair.cls ≠ "java/lang/invoke/VarHandle" ∧ (parseMethodDescriptor yX5_joinFirstPair.desc).map (fun d => d.parameters.length) = some 0 := by decide +kernel
theorem hd_X5_joinPair : yX5_joinPair.cls ≠ "java/lang/invoke/MethodHandle" ∧ yX5_joinPair.cls ≠ "java/lang/invoke/VarHandle" ∧ (parseMethodDescriptor yX5_joinPair.desc).map (fun d => d.parameters.length) = some 2 := by decide +kernel
theorem hd_X5_endOwning : yX5_endOwning.cls ≠ "java/lang/invoke/MethodHandle" ∧ yX5_endOwning.cls ≠ "java/lang/invoke/VarHandle" ∧ (parseMethodDescriptor yX5_endOwning.desc).map (fun d => d.parameters.length) = some 1 := by decide +kernel
theorem hd_X5_payRent : yX5_payRent.cls ≠ "java/lang/invoke/MethodHandle" ∧ yX5_payRent.cls ≠ "java/lang/invoke/VarHandle" ∧ (parseMethodDescriptor yX5_payRent.desc).map (fun d => d.parameters.length) = some 2 := by decide +kernel
theorem hd_X5_refusalToEat : yX5_refusalToEat.cls ≠ "java/lang/invoke/MethodHandle" ∧ yX5_refusalToEat.cls ≠ "java/lang/invoke/VarHandle" ∧ (parseMethodDescriptor yX5_refusalToEat.desc).map (fun d => d.parameters.length) = some 3 := by decide +kernel
theorem hd_X5_eatCell : yX5_eatCell.cls ≠ "java/lang/invoke/MethodHandle" ∧ yX5_eatCell.cls ≠ "java/lang/invoke/VarHandle" ∧ (parseMethodDescriptor yX5_eatCell.desc).map (fun d => d.parameters.length) = some 3 := by decide +kernel
theorem hd_X5_refusalToLet : yX5_refusalToLet.cls ≠ "java/lang/invoke/MethodHandle" ∧ yX5_refusalToLet.cls ≠ "java/lang/invoke/VarHandle" ∧ (parseMethodDescriptor yX5_refusalToLet.desc).map (fun d => d.parameters.length) = some 3 := by decide +kernel
theorem hd_X5_letHole : yX5_letHole.cls ≠ "java/lang/invoke/MethodHandle" ∧ yX5_letHole.cls ≠ "java/lang/invoke/VarHandle" ∧ (parseMethodDescriptor yX5_letHole.desc).map (fun d => d.parameters.length) = some 2 := by decide +kernel
theorem hd_X5_refusalToSell : yX5_refusalToSell.cls ≠ "java/lang/invoke/MethodHandle" ∧ yX5_refusalToSell.cls ≠ "java/lang/invoke/VarHandle" ∧ (parseMethodDescriptor yX5_refusalToSell.desc).map (fun d => d.parameters.length) = some 3 := by decide +kernel
theorem hd_X5_sellHole : yX5_sellHole.cls ≠ "java/lang/invoke/MethodHandle" ∧ yX5_sellHole.cls ≠ "java/lang/invoke/VarHandle" ∧ (parseMethodDescriptor yX5_sellHole.desc).map (fun d => d.parameters.length) = some 2 := by decide +kernel
theorem hd_X5_doTold : yX5_doTold.cls ≠ "java/lang/invoke/MethodHandle" ∧ yX5_doTold.cls ≠ "java/lang/invoke/VarHandle" ∧ (parseMethodDescriptor yX5_doTold.desc).map (fun d => d.parameters.length) = some 2 := by decide +kernel
theorem hd_X6_init : yX6_init.cls ≠ "java/lang/invoke/MethodHandle" ∧ yX6_init.cls ≠ "java/lang/invoke/VarHandle" ∧ (parseMethodDescriptor yX6_init.desc).map (fun d => d.parameters.length) = some 0 := by decide +kernel
theorem hd_X6_write : yX6_write.cls ≠ "java/lang/invoke/MethodHandle" ∧ yX6_write.cls ≠ "java/lang/invoke/VarHandle" ∧ (parseMethodDescriptor yX6_write.desc).map (fun d => d.parameters.length) = some 1 := by decide +kernel
theorem hd_X6_wipe : yX6_wipe.cls ≠ "java/lang/invoke/MethodHandle" ∧ yX6_wipe.cls ≠ "java/lang/invoke/VarHandle" ∧ (parseMethodDescriptor yX6_wipe.desc).map (fun d => d.parameters.length) = some 0 := by decide +kernel
theorem hd_X6_fault : yX6_fault.cls ≠ "java/lang/invoke/MethodHandle" ∧ yX6_fault.cls ≠ "java/lang/invoke/VarHandle" ∧ (parseMethodDescriptor yX6_fault.desc).map (fun d => d.parameters.length) = some 0 := by decide +kernel
theorem hd_X6_dairy : yX6_dairy.cls ≠ "java/lang/invoke/MethodHandle" ∧ yX6_dairy.cls ≠ "java/lang/invoke/VarHandle" ∧ (parseMethodDescriptor yX6_dairy.desc).map (fun d => d.parameters.length) = some 0 := by decide +kernel
theorem hd_X6_owner : yX6_owner.cls ≠ "java/lang/invoke/MethodHandle" ∧ yX6_owner.cls ≠ "java/lang/invoke/VarHandle" ∧ (parseMethodDescriptor yX6_owner.desc).map (fun d => d.parameters.length) = some 2 := by decide +kernel
theorem hd_X6_hole : yX6_hole.cls ≠ "java/lang/invoke/MethodHandle" ∧ yX6_hole.cls ≠ "java/lang/invoke/VarHandle" ∧ (parseMethodDescriptor yX6_hole.desc).map (fun d => d.parameters.length) = some 2 := by decide +kernel
theorem hd_X6_cell : yX6_cell.cls ≠ "java/lang/invoke/MethodHandle" ∧ yX6_cell.cls ≠ "java/lang/invoke/VarHandle" ∧ (parseMethodDescriptor yX6_cell.desc).map (fun d => d.parameters.length) = some 2 := by decide +kernel
theorem hd_X6_day : yX6_day.cls ≠ "java/lang/invoke/MethodHandle" ∧ yX6_day.cls ≠ "java/lang/invoke/VarHandle" ∧ (parseMethodDescriptor yX6_day.desc).map (fun d => d.parameters.length) = some 0 := by decide +kernel
theorem hd_X6_eat : yX6_eat.cls ≠ "java/lang/invoke/MethodHandle" ∧ yX6_eat.cls ≠ "java/lang/invoke/VarHandle" ∧ (parseMethodDescriptor yX6_eat.desc).map (fun d => d.parameters.length) = some 2 := by decide +kernel
theorem hd_X6_let : yX6_let.cls ≠ "java/lang/invoke/MethodHandle" ∧ yX6_let.cls ≠ "java/lang/invoke/VarHandle" ∧ (parseMethodDescriptor yX6_let.desc).map (fun d => d.parameters.length) = some 2 := by decide +kernel
theorem hd_X6_sell : yX6_sell.cls ≠ "java/lang/invoke/MethodHandle" ∧ yX6_sell.cls ≠ "java/lang/invoke/VarHandle" ∧ (parseMethodDescriptor yX6_sell.desc).map (fun d => d.parameters.length) = some 2 := by decide +kernel
theorem hd_X6_undo : yX6_undo.cls ≠ "java/lang/invoke/MethodHandle" ∧ yX6_undo.cls ≠ "java/lang/invoke/VarHandle" ∧ (parseMethodDescriptor yX6_undo.desc).map (fun d => d.parameters.length) = some 0 := by decide +kernel
theorem hd_X6_way : yX6_way.cls ≠ "java/lang/invoke/MethodHandle" ∧ yX6_way.cls ≠ "java/lang/invoke/VarHandle" ∧ (parseMethodDescriptor yX6_way.desc).map (fun d => d.parameters.length) = some 2 := by decide +kernel
theorem hd_X6_gnaw : yX6_gnaw.cls ≠ "java/lang/invoke/MethodHandle" ∧ yX6_gnaw.cls ≠ "java/lang/invoke/VarHandle" ∧ (parseMethodDescriptor yX6_gnaw.desc).map (fun d => d.parameters.length) = some 2 := by decide +kernel
theorem hd_X6_wedding : yX6_wedding.cls ≠ "java/lang/invoke/MethodHandle" ∧ yX6_wedding.cls ≠ "java/lang/invoke/VarHandle" ∧ (parseMethodDescriptor yX6_wedding.desc).map (fun d => d.parameters.length) = some 2 := by decide +kernel
theorem hd_X6_ahead : yX6_ahead.cls ≠ "java/lang/invoke/MethodHandle" ∧ yX6_ahead.cls ≠ "java/lang/invoke/VarHandle" ∧ (parseMethodDescriptor yX6_ahead.desc).map (fun d => d.parameters.length) = some 2 := by decide +kernel
theorem hd_X6_cut : yX6_cut.cls ≠ "java/lang/invoke/MethodHandle" ∧ yX6_cut.cls ≠ "java/lang/invoke/VarHandle" ∧ (parseMethodDescriptor yX6_cut.desc).map (fun d => d.parameters.length) = some 3 := by decide +kernel
theorem hd_X6_judge : yX6_judge.cls ≠ "java/lang/invoke/MethodHandle" ∧ yX6_judge.cls ≠ "java/lang/invoke/VarHandle" ∧ (parseMethodDescriptor yX6_judge.desc).map (fun d => d.parameters.length) = some 2 := by decide +kernel
theorem hd_X6_taste : yX6_taste.cls ≠ "java/lang/invoke/MethodHandle" ∧ yX6_taste.cls ≠ "java/lang/invoke/VarHandle" ∧ (parseMethodDescriptor yX6_taste.desc).map (fun d => d.parameters.length) = some 3 := by decide +kernel
theorem hd_X6_rinse : yX6_rinse.cls ≠ "java/lang/invoke/MethodHandle" ∧ yX6_rinse.cls ≠ "java/lang/invoke/VarHandle" ∧ (parseMethodDescriptor yX6_rinse.desc).map (fun d => d.parameters.length) = some 0 := by decide +kernel
theorem hd_X6_began : yX6_began.cls ≠ "java/lang/invoke/MethodHandle" ∧ yX6_began.cls ≠ "java/lang/invoke/VarHandle" ∧ (parseMethodDescriptor yX6_began.desc).map (fun d => d.parameters.length) = some 1 := by decide +kernel
theorem hd_X6_mayHaveBegun : yX6_mayHaveBegun.cls ≠ "java/lang/invoke/MethodHandle" ∧ yX6_mayHaveBegun.cls ≠ "java/lang/invoke/VarHandle" ∧ (parseMethodDescriptor yX6_mayHaveBegun.desc).map (fun d => d.parameters.length) = some 1 := by decide +kernel
theorem hd_X6_share : yX6_share.cls ≠ "java/lang/invoke/MethodHandle" ∧ yX6_share.cls ≠ "java/lang/invoke/VarHandle" ∧ (parseMethodDescriptor yX6_share.desc).map (fun d => d.parameters.length) = some 2 := by decide +kernel
theorem hd_X6_largestEstate : yX6_largestEstate.cls ≠ "java/lang/invoke/MethodHandle" ∧ yX6_largestEstate.cls ≠ "java/lang/invoke/VarHandle" ∧ (parseMethodDescriptor yX6_largestEstate.desc).map (fun d => d.parameters.length) = some 1 := by decide +kernel
theorem hd_X6_rests : yX6_rests.cls ≠ "java/lang/invoke/MethodHandle" ∧ yX6_rests.cls ≠ "java/lang/invoke/VarHandle" ∧ (parseMethodDescriptor yX6_rests.desc).map (fun d => d.parameters.length) = some 3 := by decide +kernel
theorem hd_X6_isContent : yX6_isContent.cls ≠ "java/lang/invoke/MethodHandle" ∧ yX6_isContent.cls ≠ "java/lang/invoke/VarHandle" ∧ (parseMethodDescriptor yX6_isContent.desc).map (fun d => d.parameters.length) = some 3 := by decide +kernel
theorem hd_X6_hasByAsking : yX6_hasByAsking.cls ≠ "java/lang/invoke/MethodHandle" ∧ yX6_hasByAsking.cls ≠ "java/lang/invoke/VarHandle" ∧ (parseMethodDescriptor yX6_hasByAsking.desc).map (fun d => d.parameters.length) = some 3 := by decide +kernel
theorem hd_X6_passes : yX6_passes.cls ≠ "java/lang/invoke/MethodHandle" ∧ yX6_passes.cls ≠ "java/lang/invoke/VarHandle" ∧ (parseMethodDescriptor yX6_passes.desc).map (fun d => d.parameters.length) = some 4 := by decide +kernel
theorem hd_X6_weightOfShut : yX6_weightOfShut.cls ≠ "java/lang/invoke/MethodHandle" ∧ yX6_weightOfShut.cls ≠ "java/lang/invoke/VarHandle" ∧ (parseMethodDescriptor yX6_weightOfShut.desc).map (fun d => d.parameters.length) = some 3 := by decide +kernel
theorem hd_X6_seed : yX6_seed.cls ≠ "java/lang/invoke/MethodHandle" ∧ yX6_seed.cls ≠ "java/lang/invoke/VarHandle" ∧ (parseMethodDescriptor yX6_seed.desc).map (fun d => d.parameters.length) = some 1 := by decide +kernel
theorem hd_X6_years : yX6_years.cls ≠ "java/lang/invoke/MethodHandle" ∧ yX6_years.cls ≠ "java/lang/invoke/VarHandle" ∧ (parseMethodDescriptor yX6_years.desc).map (fun d => d.parameters.length) = some 1 := by decide +kernel
theorem hd_X6_keep : yX6_keep.cls ≠ "java/lang/invoke/MethodHandle" ∧ yX6_keep.cls ≠ "java/lang/invoke/VarHandle" ∧ (parseMethodDescriptor yX6_keep.desc).map (fun d => d.parameters.length) = some 1 := by decide +kernel
theorem hd_X6_again : yX6_again.cls ≠ "java/lang/invoke/MethodHandle" ∧ yX6_again.cls ≠ "java/lang/invoke/VarHandle" ∧ (parseMethodDescriptor yX6_again.desc).map (fun d => d.parameters.length) = some 1 := by decide +kernel
theorem hd_X6_slotAt : yX6_slotAt.cls ≠ "java/lang/invoke/MethodHandle" ∧ yX6_slotAt.cls ≠ "java/lang/invoke/VarHandle" ∧ (parseMethodDescriptor yX6_slotAt.desc).map (fun d => d.parameters.length) = some 1 := by decide +kernel
theorem hd_X6_count : yX6_count.cls ≠ "java/lang/invoke/MethodHandle" ∧ yX6_count.cls ≠ "java/lang/invoke/VarHandle" ∧ (parseMethodDescriptor yX6_count.desc).map (fun d => d.parameters.length) = some 1 := by decide +kernel
theorem hd_X6_partOfFraction : yX6_partOfFraction.cls ≠ "java/lang/invoke/MethodHandle" ∧ yX6_partOfFraction.cls ≠ "java/lang/invoke/VarHandle" ∧ (parseMethodDescriptor yX6_partOfFraction.desc).map (fun d => d.parameters.length) = some 3 := by decide +kernel
theorem hd_X7_init : yX7_init.cls ≠ "java/lang/invoke/MethodHandle" ∧ yX7_init.cls ≠ "java/lang/invoke/VarHandle" ∧ (parseMethodDescriptor yX7_init.desc).map (fun d => d.parameters.length) = some 0 := by decide +kernel
theorem hd_X7_in : yX7_in.cls ≠ "java/lang/invoke/MethodHandle" ∧ yX7_in.cls ≠ "java/lang/invoke/VarHandle" ∧ (parseMethodDescriptor yX7_in.desc).map (fun d => d.parameters.length) = some 3 := by decide +kernel
theorem hd_X7_has : yX7_has.cls ≠ "java/lang/invoke/MethodHandle" ∧ yX7_has.cls ≠ "java/lang/invoke/VarHandle" ∧ (parseMethodDescriptor yX7_has.desc).map (fun d => d.parameters.length) = some 2 := by decide +kernel
theorem hd_X7_ones : yX7_ones.cls ≠ "java/lang/invoke/MethodHandle" ∧ yX7_ones.cls ≠ "java/lang/invoke/VarHandle" ∧ (parseMethodDescriptor yX7_ones.desc).map (fun d => d.parameters.length) = some 1 := by decide +kernel
theorem hd_X7_write : yX7_write.cls ≠ "java/lang/invoke/MethodHandle" ∧ yX7_write.cls ≠ "java/lang/invoke/VarHandle" ∧ (parseMethodDescriptor yX7_write.desc).map (fun d => d.parameters.length) = some 1 := by decide +kernel
theorem hd_X7_wipe : yX7_wipe.cls ≠ "java/lang/invoke/MethodHandle" ∧ yX7_wipe.cls ≠ "java/lang/invoke/VarHandle" ∧ (parseMethodDescriptor yX7_wipe.desc).map (fun d => d.parameters.length) = some 0 := by decide +kernel
theorem hd_X7_told : yX7_told.cls ≠ "java/lang/invoke/MethodHandle" ∧ yX7_told.cls ≠ "java/lang/invoke/VarHandle" ∧ (parseMethodDescriptor yX7_told.desc).map (fun d => d.parameters.length) = some 2 := by decide +kernel
theorem hd_X7_readText : yX7_readText.cls ≠ "java/lang/invoke/MethodHandle" ∧ yX7_readText.cls ≠ "java/lang/invoke/VarHandle" ∧ (parseMethodDescriptor yX7_readText.desc).map (fun d => d.parameters.length) = some 0 := by decide +kernel
theorem hd_X7_readPart : yX7_readPart.cls ≠ "java/lang/invoke/MethodHandle" ∧ yX7_readPart.cls ≠ "java/lang/invoke/VarHandle" ∧ (parseMethodDescriptor yX7_readPart.desc).map (fun d => d.parameters.length) = some 1 := by decide +kernel
theorem hd_X7_fault : yX7_fault.cls ≠ "java/lang/invoke/MethodHandle" ∧ yX7_fault.cls ≠ "java/lang/invoke/VarHandle" ∧ (parseMethodDescriptor yX7_fault.desc).map (fun d => d.parameters.length) = some 0 := by decide +kernel
theorem hd_X7_dairy : yX7_dairy.cls ≠ "java/lang/invoke/MethodHandle" ∧ yX7_dairy.cls ≠ "java/lang/invoke/VarHandle" ∧ (parseMethodDescriptor yX7_dairy.desc).map (fun d => d.parameters.length) = some 0 := by decide +kernel
theorem hd_X7_isOwner : yX7_isOwner.cls ≠ "java/lang/invoke/MethodHandle" ∧ yX7_isOwner.cls ≠ "java/lang/invoke/VarHandle" ∧ (parseMethodDescriptor yX7_isOwner.desc).map (fun d => d.parameters.length) = some 1 := by decide +kernel
theorem hd_X7_isHole : yX7_isHole.cls ≠ "java/lang/invoke/MethodHandle" ∧ yX7_isHole.cls ≠ "java/lang/invoke/VarHandle" ∧ (parseMethodDescriptor yX7_isHole.desc).map (fun d => d.parameters.length) = some 1 := by decide +kernel
theorem hd_X7_isCell : yX7_isCell.cls ≠ "java/lang/invoke/MethodHandle" ∧ yX7_isCell.cls ≠ "java/lang/invoke/VarHandle" ∧ (parseMethodDescriptor yX7_isCell.desc).map (fun d => d.parameters.length) = some 1 := by decide +kernel
theorem hd_X7_of : yX7_of.cls ≠ "java/lang/invoke/MethodHandle" ∧ yX7_of.cls ≠ "java/lang/invoke/VarHandle" ∧ (parseMethodDescriptor yX7_of.desc).map (fun d => d.parameters.length) = some 2 := by decide +kernel
theorem hd_X7_beside : yX7_beside.cls ≠ "java/lang/invoke/MethodHandle" ∧ yX7_beside.cls ≠ "java/lang/invoke/VarHandle" ∧ (parseMethodDescriptor yX7_beside.desc).map (fun d => d.parameters.length) = some 1 := by decide +kernel
theorem hd_X7_ownerOf : yX7_ownerOf.cls ≠ "java/lang/invoke/MethodHandle" ∧ yX7_ownerOf.cls ≠ "java/lang/invoke/VarHandle" ∧ (parseMethodDescriptor yX7_ownerOf.desc).map (fun d => d.parameters.length) = some 2 := by decide +kernel
theorem hd_X7_isMonks : yX7_isMonks.cls ≠ "java/lang/invoke/MethodHandle" ∧ yX7_isMonks.cls ≠ "java/lang/invoke/VarHandle" ∧ (parseMethodDescriptor yX7_isMonks.desc).map (fun d => d.parameters.length) = some 1 := by decide +kernel
theorem hd_X7_pay : yX7_pay.cls ≠ "java/lang/invoke/MethodHandle" ∧ yX7_pay.cls ≠ "java/lang/invoke/VarHandle" ∧ (parseMethodDescriptor yX7_pay.desc).map (fun d => d.parameters.length) = some 4 := by decide +kernel
theorem hd_X7_least : yX7_least.cls ≠ "java/lang/invoke/MethodHandle" ∧ yX7_least.cls ≠ "java/lang/invoke/VarHandle" ∧ (parseMethodDescriptor yX7_least.desc).map (fun d => d.parameters.length) = some 1 := by decide +kernel
theorem hd_X7_takes : yX7_takes.cls ≠ "java/lang/invoke/MethodHandle" ∧ yX7_takes.cls ≠ "java/lang/invoke/VarHandle" ∧ (parseMethodDescriptor yX7_takes.desc).map (fun d => d.parameters.length) = some 3 := by decide +kernel
theorem hd_X7_freePaste : yX7_freePaste.cls ≠ "java/lang/invoke/MethodHandle" ∧ yX7_freePaste.cls ≠ "java/lang/invoke/VarHandle" ∧ (parseMethodDescriptor yX7_freePaste.desc).map (fun d => d.parameters.length) = some 1 := by decide +kernel
theorem hd_X7_grow : yX7_grow.cls ≠ "java/lang/invoke/MethodHandle" ∧ yX7_grow.cls ≠ "java/lang/invoke/VarHandle" ∧ (parseMethodDescriptor yX7_grow.desc).map (fun d => d.parameters.length) = some 2 := by decide +kernel
theorem hd_X7_endHole : yX7_endHole.cls ≠ "java/lang/invoke/MethodHandle" ∧ yX7_endHole.cls ≠ "java/lang/invoke/VarHandle" ∧ (parseMethodDescriptor yX7_endHole.desc).map (fun d => d.parameters.length) = some 2 := by decide +kernel
theorem hd_X7_join : yX7_join.cls ≠ "java/lang/invoke/MethodHandle" ∧ yX7_join.cls ≠ "java/lang/invoke/VarHandle" ∧ (parseMethodDescriptor yX7_join.desc).map (fun d => d.parameters.length) = some 3 := by decide +kernel
theorem hd_X7_wed : yX7_wed.cls ≠ "java/lang/invoke/MethodHandle" ∧ yX7_wed.cls ≠ "java/lang/invoke/VarHandle" ∧ (parseMethodDescriptor yX7_wed.desc).map (fun d => d.parameters.length) = some 1 := by decide +kernel
theorem hd_X7_passOn : yX7_passOn.cls ≠ "java/lang/invoke/MethodHandle" ∧ yX7_passOn.cls ≠ "java/lang/invoke/VarHandle" ∧ (parseMethodDescriptor yX7_passOn.desc).map (fun d => d.parameters.length) = some 1 := by decide +kernel
theorem hd_X7_alive : yX7_alive.cls ≠ "java/lang/invoke/MethodHandle" ∧ yX7_alive.cls ≠ "java/lang/invoke/VarHandle" ∧ (parseMethodDescriptor yX7_alive.desc).map (fun d => d.parameters.length) = some 1 := by decide +kernel
theorem hd_X7_estate : yX7_estate.cls ≠ "java/lang/invoke/MethodHandle" ∧ yX7_estate.cls ≠ "java/lang/invoke/VarHandle" ∧ (parseMethodDescriptor yX7_estate.desc).map (fun d => d.parameters.length) = some 1 := by decide +kernel
theorem hd_X7_owner : yX7_owner.cls ≠ "java/lang/invoke/MethodHandle" ∧ yX7_owner.cls ≠ "java/lang/invoke/VarHandle" ∧ (parseMethodDescriptor yX7_owner.desc).map (fun d => d.parameters.length) = some 2 := by decide +kernel
theorem hd_X7_hole : yX7_hole.cls ≠ "java/lang/invoke/MethodHandle" ∧ yX7_hole.cls ≠ "java/lang/invoke/VarHandle" ∧ (parseMethodDescriptor yX7_hole.desc).map (fun d => d.parameters.length) = some 2 := by decide +kernel
theorem hd_X7_cell : yX7_cell.cls ≠ "java/lang/invoke/MethodHandle" ∧ yX7_cell.cls ≠ "java/lang/invoke/VarHandle" ∧ (parseMethodDescriptor yX7_cell.desc).map (fun d => d.parameters.length) = some 2 := by decide +kernel
theorem hd_X7_keepAct : yX7_keepAct.cls ≠ "java/lang/invoke/MethodHandle" ∧ yX7_keepAct.cls ≠ "java/lang/invoke/VarHandle" ∧ (parseMethodDescriptor yX7_keepAct.desc).map (fun d => d.parameters.length) = some 0 := by decide +kernel
theorem hd_X7_day : yX7_day.cls ≠ "java/lang/invoke/MethodHandle" ∧ yX7_day.cls ≠ "java/lang/invoke/VarHandle" ∧ (parseMethodDescriptor yX7_day.desc).map (fun d => d.parameters.length) = some 0 := by decide +kernel
theorem hd_X7_canEat : yX7_canEat.cls ≠ "java/lang/invoke/MethodHandle" ∧ yX7_canEat.cls ≠ "java/lang/invoke/VarHandle" ∧ (parseMethodDescriptor yX7_canEat.desc).map (fun d => d.parameters.length) = some 3 := by decide +kernel
theorem hd_X7_eatOn : yX7_eatOn.cls ≠ "java/lang/invoke/MethodHandle" ∧ yX7_eatOn.cls ≠ "java/lang/invoke/VarHandle" ∧ (parseMethodDescriptor yX7_eatOn.desc).map (fun d => d.parameters.length) = some 3 := by decide +kernel
theorem hd_X7_eat : yX7_eat.cls ≠ "java/lang/invoke/MethodHandle" ∧ yX7_eat.cls ≠ "java/lang/invoke/VarHandle" ∧ (parseMethodDescriptor yX7_eat.desc).map (fun d => d.parameters.length) = some 2 := by decide +kernel
theorem hd_X7_canLet : yX7_canLet.cls ≠ "java/lang/invoke/MethodHandle" ∧ yX7_canLet.cls ≠ "java/lang/invoke/VarHandle" ∧ (parseMethodDescriptor yX7_canLet.desc).map (fun d => d.parameters.length) = some 3 := by decide +kernel
theorem hd_X7_let : yX7_let.cls ≠ "java/lang/invoke/MethodHandle" ∧ yX7_let.cls ≠ "java/lang/invoke/VarHandle" ∧ (parseMethodDescriptor yX7_let.desc).map (fun d => d.parameters.length) = some 2 := by decide +kernel
theorem hd_X7_canSell : yX7_canSell.cls ≠ "java/lang/invoke/MethodHandle" ∧ yX7_canSell.cls ≠ "java/lang/invoke/VarHandle" ∧ (parseMethodDescriptor yX7_canSell.desc).map (fun d => d.parameters.length) = some 3 := by decide +kernel
theorem hd_X7_sellOn : yX7_sellOn.cls ≠ "java/lang/invoke/MethodHandle" ∧ yX7_sellOn.cls ≠ "java/lang/invoke/VarHandle" ∧ (parseMethodDescriptor yX7_sellOn.desc).map (fun d => d.parameters.length) = some 3 := by decide +kernel
theorem hd_X7_sell : yX7_sell.cls ≠ "java/lang/invoke/MethodHandle" ∧ yX7_sell.cls ≠ "java/lang/invoke/VarHandle" ∧ (parseMethodDescriptor yX7_sell.desc).map (fun d => d.parameters.length) = some 2 := by decide +kernel
theorem hd_X7_undo : yX7_undo.cls ≠ "java/lang/invoke/MethodHandle" ∧ yX7_undo.cls ≠ "java/lang/invoke/VarHandle" ∧ (parseMethodDescriptor yX7_undo.desc).map (fun d => d.parameters.length) = some 0 := by decide +kernel
theorem hd_X7_stepsBy : yX7_stepsBy.cls ≠ "java/lang/invoke/MethodHandle" ∧ yX7_stepsBy.cls ≠ "java/lang/invoke/VarHandle" ∧ (parseMethodDescriptor yX7_stepsBy.desc).map (fun d => d.parameters.length) = some 3 := by decide +kernel
theorem hd_X7_way : yX7_way.cls ≠ "java/lang/invoke/MethodHandle" ∧ yX7_way.cls ≠ "java/lang/invoke/VarHandle" ∧ (parseMethodDescriptor yX7_way.desc).map (fun d => d.parameters.length) = some 2 := by decide +kernel
theorem hd_X7_gnaw : yX7_gnaw.cls ≠ "java/lang/invoke/MethodHandle" ∧ yX7_gnaw.cls ≠ "java/lang/invoke/VarHandle" ∧ (parseMethodDescriptor yX7_gnaw.desc).map (fun d => d.parameters.length) = some 2 := by decide +kernel
theorem hd_X7_costOf : yX7_costOf.cls ≠ "java/lang/invoke/MethodHandle" ∧ yX7_costOf.cls ≠ "java/lang/invoke/VarHandle" ∧ (parseMethodDescriptor yX7_costOf.desc).map (fun d => d.parameters.length) = some 1 := by decide +kernel
theorem hd_X7_ease : yX7_ease.cls ≠ "java/lang/invoke/MethodHandle" ∧ yX7_ease.cls ≠ "java/lang/invoke/VarHandle" ∧ (parseMethodDescriptor yX7_ease.desc).map (fun d => d.parameters.length) = some 1 := by decide +kernel
theorem hd_X7_layTrial : yX7_layTrial.cls ≠ "java/lang/invoke/MethodHandle" ∧ yX7_layTrial.cls ≠ "java/lang/invoke/VarHandle" ∧ (parseMethodDescriptor yX7_layTrial.desc).map (fun d => d.parameters.length) = some 0 := by decide +kernel
theorem hd_X7_wedding : yX7_wedding.cls ≠ "java/lang/invoke/MethodHandle" ∧ yX7_wedding.cls ≠ "java/lang/invoke/VarHandle" ∧ (parseMethodDescriptor yX7_wedding.desc).map (fun d => d.parameters.length) = some 2 := by decide +kernel
theorem hd_X7_ahead : yX7_ahead.cls ≠ "java/lang/invoke/MethodHandle" ∧ yX7_ahead.cls ≠ "java/lang/invoke/VarHandle" ∧ (parseMethodDescriptor yX7_ahead.desc).map (fun d => d.parameters.length) = some 2 := by decide +kernel
theorem hd_X7_cut : yX7_cut.cls ≠ "java/lang/invoke/MethodHandle" ∧ yX7_cut.cls ≠ "java/lang/invoke/VarHandle" ∧ (parseMethodDescriptor yX7_cut.desc).map (fun d => d.parameters.length) = some 3 := by decide +kernel
theorem hd_X7_tryThing : yX7_tryThing.cls ≠ "java/lang/invoke/MethodHandle" ∧ yX7_tryThing.cls ≠ "java/lang/invoke/VarHandle" ∧ (parseMethodDescriptor yX7_tryThing.desc).map (fun d => d.parameters.length) = some 3 := by decide +kernel
theorem hd_X7_power : yX7_power.cls ≠ "java/lang/invoke/MethodHandle" ∧ yX7_power.cls ≠ "java/lang/invoke/VarHandle" ∧ (parseMethodDescriptor yX7_power.desc).map (fun d => d.parameters.length) = some 2 := by decide +kernel
theorem hd_X7_judge : yX7_judge.cls ≠ "java/lang/invoke/MethodHandle" ∧ yX7_judge.cls ≠ "java/lang/invoke/VarHandle" ∧ (parseMethodDescriptor yX7_judge.desc).map (fun d => d.parameters.length) = some 2 := by decide +kernel
theorem hd_X7_taste : yX7_taste.cls ≠ "java/lang/invoke/MethodHandle" ∧ yX7_taste.cls ≠ "java/lang/invoke/VarHandle" ∧ (parseMethodDescriptor yX7_taste.desc).map (fun d => d.parameters.length) = some 3 := by decide +kernel
theorem hd_X7_rinse : yX7_rinse.cls ≠ "java/lang/invoke/MethodHandle" ∧ yX7_rinse.cls ≠ "java/lang/invoke/VarHandle" ∧ (parseMethodDescriptor yX7_rinse.desc).map (fun d => d.parameters.length) = some 0 := by decide +kernel
theorem hd_X7_mayBegin : yX7_mayBegin.cls ≠ "java/lang/invoke/MethodHandle" ∧ yX7_mayBegin.cls ≠ "java/lang/invoke/VarHandle" ∧ (parseMethodDescriptor yX7_mayBegin.desc).map (fun d => d.parameters.length) = some 2 := by decide +kernel
theorem hd_X7_began : yX7_began.cls ≠ "java/lang/invoke/MethodHandle" ∧ yX7_began.cls ≠ "java/lang/invoke/VarHandle" ∧ (parseMethodDescriptor yX7_began.desc).map (fun d => d.parameters.length) = some 1 := by decide +kernel
theorem hd_X7_factorial : yX7_factorial.cls ≠ "java/lang/invoke/MethodHandle" ∧ yX7_factorial.cls ≠ "java/lang/invoke/VarHandle" ∧ (parseMethodDescriptor yX7_factorial.desc).map (fun d => d.parameters.length) = some 1 := by decide +kernel
theorem hd_X7_common : yX7_common.cls ≠ "java/lang/invoke/MethodHandle" ∧ yX7_common.cls ≠ "java/lang/invoke/VarHandle" ∧ (parseMethodDescriptor yX7_common.desc).map (fun d => d.parameters.length) = some 2 := by decide +kernel
theorem hd_X7_largest : yX7_largest.cls ≠ "java/lang/invoke/MethodHandle" ∧ yX7_largest.cls ≠ "java/lang/invoke/VarHandle" ∧ (parseMethodDescriptor yX7_largest.desc).map (fun d => d.parameters.length) = some 1 := by decide +kernel
theorem hd_X7_share : yX7_share.cls ≠ "java/lang/invoke/MethodHandle" ∧ yX7_share.cls ≠ "java/lang/invoke/VarHandle" ∧ (parseMethodDescriptor yX7_share.desc).map (fun d => d.parameters.length) = some 2 := by decide +kernel
theorem hd_X7_holeCells : yX7_holeCells.cls ≠ "java/lang/invoke/MethodHandle" ∧ yX7_holeCells.cls ≠ "java/lang/invoke/VarHandle" ∧ (parseMethodDescriptor yX7_holeCells.desc).map (fun d => d.parameters.length) = some 1 := by decide +kernel
theorem hd_X7_gain : yX7_gain.cls ≠ "java/lang/invoke/MethodHandle" ∧ yX7_gain.cls ≠ "java/lang/invoke/VarHandle" ∧ (parseMethodDescriptor yX7_gain.desc).map (fun d => d.parameters.length) = some 3 := by decide +kernel
theorem hd_X7_rests : yX7_rests.cls ≠ "java/lang/invoke/MethodHandle" ∧ yX7_rests.cls ≠ "java/lang/invoke/VarHandle" ∧ (parseMethodDescriptor yX7_rests.desc).map (fun d => d.parameters.length) = some 3 := by decide +kernel
theorem hd_X7_passes : yX7_passes.cls ≠ "java/lang/invoke/MethodHandle" ∧ yX7_passes.cls ≠ "java/lang/invoke/VarHandle" ∧ (parseMethodDescriptor yX7_passes.desc).map (fun d => d.parameters.length) = some 4 := by decide +kernel
theorem hd_X7_seed : yX7_seed.cls ≠ "java/lang/invoke/MethodHandle" ∧ yX7_seed.cls ≠ "java/lang/invoke/VarHandle" ∧ (parseMethodDescriptor yX7_seed.desc).map (fun d => d.parameters.length) = some 1 := by decide +kernel
theorem hd_X7_years : yX7_years.cls ≠ "java/lang/invoke/MethodHandle" ∧ yX7_years.cls ≠ "java/lang/invoke/VarHandle" ∧ (parseMethodDescriptor yX7_years.desc).map (fun d => d.parameters.length) = some 1 := by decide +kernel
theorem hd_X7_keep : yX7_keep.cls ≠ "java/lang/invoke/MethodHandle" ∧ yX7_keep.cls ≠ "java/lang/invoke/VarHandle" ∧ (parseMethodDescriptor yX7_keep.desc).map (fun d => d.parameters.length) = some 1 := by decide +kernel
theorem hd_X7_again : yX7_again.cls ≠ "java/lang/invoke/MethodHandle" ∧ yX7_again.cls ≠ "java/lang/invoke/VarHandle" ∧ (parseMethodDescriptor yX7_again.desc).map (fun d => d.parameters.length) = some 1 := by decide +kernel
theorem hd_X7_count : yX7_count.cls ≠ "java/lang/invoke/MethodHandle" ∧ yX7_count.cls ≠ "java/lang/invoke/VarHandle" ∧ (parseMethodDescriptor yX7_count.desc).map (fun d => d.parameters.length) = some 1 := by decide +kernel
theorem hd_J6_bitCount_0f7a4 : yJ6_bitCount_0f7a4.cls ≠ "java/lang/invoke/MethodHandle" ∧ yJ6_bitCount_0f7a4.cls ≠ "java/lang/invoke/VarHandle" ∧ (parseMethodDescriptor yJ6_bitCount_0f7a4.desc).map (fun d => d.parameters.length) = some 1 := by decide +kernel
theorem hd_J9_abs_0f7a4 : yJ9_abs_0f7a4.cls ≠ "java/lang/invoke/MethodHandle" ∧ yJ9_abs_0f7a4.cls ≠ "java/lang/invoke/VarHandle" ∧ (parseMethodDescriptor yJ9_abs_0f7a4.desc).map (fun d => d.parameters.length) = some 1 := by decide +kernel
theorem hd_J9_max_7cf53 : yJ9_max_7cf53.cls ≠ "java/lang/invoke/MethodHandle" ∧ yJ9_max_7cf53.cls ≠ "java/lang/invoke/VarHandle" ∧ (parseMethodDescriptor yJ9_max_7cf53.desc).map (fun d => d.parameters.length) = some 2 := by decide +kernel
theorem hd_J7_fill_53178 : yJ7_fill_53178.cls ≠ "java/lang/invoke/MethodHandle" ∧ yJ7_fill_53178.cls ≠ "java/lang/invoke/VarHandle" ∧ (parseMethodDescriptor yJ7_fill_53178.desc).map (fun d => d.parameters.length) = some 2 := by decide +kernel
end
section
theorem dX2_hasCell_0 : decode cX2_hasCell 0 = .ok (.iload_n 0, 1) := by decide +kernel
theorem dX2_hasCell_1 : decode cX2_hasCell 1 = .ok (.ifCond .lt 13, 3) := by decide +kernel
theorem dX2_hasCell_4 : decode cX2_hasCell 4 = .ok (.iload_n 0, 1) := by decide +kernel
theorem dX2_hasCell_5 : decode cX2_hasCell 5 = .ok (.bipush 20, 2) := by decide +kernel
theorem dX2_hasCell_7 : decode cX2_hasCell 7 = .ok (.if_icmp .ge 7, 3) := by decide +kernel
theorem dX2_hasCell_10 : decode cX2_hasCell 10 = .ok (.iconst 1, 1) := by decide +kernel
theorem dX2_hasCell_11 : decode cX2_hasCell 11 = .ok (.goto 4, 3) := by decide +kernel
theorem dX2_hasCell_14 : decode cX2_hasCell 14 = .ok (.iconst 0, 1) := by decide +kernel
theorem dX2_hasCell_15 : decode cX2_hasCell 15 = .ok (.ireturn, 1) := by decide +kernel
theorem dX2_bitOf_0 : decode cX2_bitOf 0 = .ok (.iload_n 0, 1) := by decide +kernel
theorem dX2_bitOf_1 : decode cX2_bitOf 1 = .ok (.invokestatic 11, 3) := by decide +kernel
theorem dX2_bitOf_4 : decode cX2_bitOf 4 = .ok (.ifCond .eq 9, 3) := by decide +kernel
theorem dX2_bitOf_7 : decode cX2_bitOf 7 = .ok (.iconst 1, 1) := by decide +kernel
theorem dX2_bitOf_8 : decode cX2_bitOf 8 = .ok (.iload_n 0, 1) := by decide +kernel
theorem dX2_bitOf_9 : decode cX2_bitOf 9 = .ok (.ishl, 1) := by decide +kernel
theorem dX2_bitOf_10 : decode cX2_bitOf 10 = .ok (.goto 4, 3) := by decide +kernel
theorem dX2_bitOf_13 : decode cX2_bitOf 13 = .ok (.iconst 0, 1) := by decide +kernel
theorem dX2_bitOf_14 : decode cX2_bitOf 14 = .ok (.ireturn, 1) := by decide +kernel
theorem dX2_rowCells_0 : decode cX2_rowCells 0 = .ok (.iload_n 0, 1) := by decide +kernel
theorem dX2_rowCells_1 : decode cX2_rowCells 1 = .ok (.ifCond .lt 17, 3) := by decide +kernel
theorem dX2_rowCells_4 : decode cX2_rowCells 4 = .ok (.iload_n 0, 1) := by decide +kernel
theorem dX2_rowCells_5 : decode cX2_rowCells 5 = .ok (.iconst 4, 1) := by decide +kernel
theorem dX2_rowCells_6 : decode cX2_rowCells 6 = .ok (.if_icmp .ge 12, 3) := by decide +kernel
theorem dX2_rowCells_9 : decode cX2_rowCells 9 = .ok (.bipush 31, 2) := by decide +kernel
theorem dX2_rowCells_11 : decode cX2_rowCells 11 = .ok (.iconst 5, 1) := by decide +kernel
theorem dX2_rowCells_12 : decode cX2_rowCells 12 = .ok (.iload_n 0, 1) := by decide +kernel
theorem dX2_rowCells_13 : decode cX2_rowCells 13 = .ok (.imul, 1) := by decide +kernel
theorem dX2_rowCells_14 : decode cX2_rowCells 14 = .ok (.ishl, 1) := by decide +kernel
theorem dX2_rowCells_15 : decode cX2_rowCells 15 = .ok (.goto 4, 3) := by decide +kernel
theorem dX2_rowCells_18 : decode cX2_rowCells 18 = .ok (.iconst 0, 1) := by decide +kernel
theorem dX2_rowCells_19 : decode cX2_rowCells 19 = .ok (.ireturn, 1) := by decide +kernel
theorem dX2_cellsLeftOf_0 : decode cX2_cellsLeftOf 0 = .ok (.iconst 0, 1) := by decide +kernel
theorem dX2_cellsLeftOf_1 : decode cX2_cellsLeftOf 1 = .ok (.istore_n 1, 1) := by decide +kernel
theorem dX2_cellsLeftOf_2 : decode cX2_cellsLeftOf 2 = .ok (.iconst 0, 1) := by decide +kernel
theorem dX2_cellsLeftOf_3 : decode cX2_cellsLeftOf 3 = .ok (.istore_n 2, 1) := by decide +kernel
theorem dX2_cellsLeftOf_4 : decode cX2_cellsLeftOf 4 = .ok (.iload_n 2, 1) := by decide +kernel
theorem dX2_cellsLeftOf_5 : decode cX2_cellsLeftOf 5 = .ok (.iconst 5, 1) := by decide +kernel
theorem dX2_cellsLeftOf_6 : decode cX2_cellsLeftOf 6 = .ok (.if_icmp .ge 21, 3) := by decide +kernel
theorem dX2_cellsLeftOf_9 : decode cX2_cellsLeftOf 9 = .ok (.iload_n 2, 1) := by decide +kernel
theorem dX2_cellsLeftOf_10 : decode cX2_cellsLeftOf 10 = .ok (.iload_n 0, 1) := by decide +kernel
theorem dX2_cellsLeftOf_11 : decode cX2_cellsLeftOf 11 = .ok (.if_icmp .ge 10, 3) := by decide +kernel
theorem dX2_cellsLeftOf_14 : decode cX2_cellsLeftOf 14 = .ok (.iload_n 1, 1) := by decide +kernel
theorem dX2_cellsLeftOf_15 : decode cX2_cellsLeftOf 15 = .ok (.ldc 15, 2) := by decide +kernel
theorem dX2_cellsLeftOf_17 : decode cX2_cellsLeftOf 17 = .ok (.iload_n 2, 1) := by decide +kernel
theorem dX2_cellsLeftOf_18 : decode cX2_cellsLeftOf 18 = .ok (.ishl, 1) := by decide +kernel
theorem dX2_cellsLeftOf_19 : decode cX2_cellsLeftOf 19 = .ok (.ior, 1) := by decide +kernel
theorem dX2_cellsLeftOf_20 : decode cX2_cellsLeftOf 20 = .ok (.istore_n 1, 1) := by decide +kernel
theorem dX2_cellsLeftOf_21 : decode cX2_cellsLeftOf 21 = .ok (.iinc 2 1, 3) := by decide +kernel
theorem dX2_cellsLeftOf_24 : decode cX2_cellsLeftOf 24 = .ok (.goto (-20), 3) := by decide +kernel
theorem dX2_cellsLeftOf_27 : decode cX2_cellsLeftOf 27 = .ok (.iload_n 1, 1) := by decide +kernel
theorem dX2_cellsLeftOf_28 : decode cX2_cellsLeftOf 28 = .ok (.ireturn, 1) := by decide +kernel
theorem dX2_leastOf_0 : decode cX2_leastOf 0 = .ok (.iload_n 0, 1) := by decide +kernel
theorem dX2_leastOf_1 : decode cX2_leastOf 1 = .ok (.iload_n 0, 1) := by decide +kernel
theorem dX2_leastOf_2 : decode cX2_leastOf 2 = .ok (.ineg, 1) := by decide +kernel
theorem dX2_leastOf_3 : decode cX2_leastOf 3 = .ok (.iand, 1) := by decide +kernel
theorem dX2_leastOf_4 : decode cX2_leastOf 4 = .ok (.ireturn, 1) := by decide +kernel
theorem dX2_beside_0 : decode cX2_beside 0 = .ok (.iload_n 0, 1) := by decide +kernel
theorem dX2_beside_1 : decode cX2_beside 1 = .ok (.iconst 5, 1) := by decide +kernel
theorem dX2_beside_2 : decode cX2_beside 2 = .ok (.ishl, 1) := by decide +kernel
theorem dX2_beside_3 : decode cX2_beside 3 = .ok (.iload_n 0, 1) := by decide +kernel
theorem dX2_beside_4 : decode cX2_beside 4 = .ok (.iconst 5, 1) := by decide +kernel
theorem dX2_beside_5 : decode cX2_beside 5 = .ok (.iushr, 1) := by decide +kernel
theorem dX2_beside_6 : decode cX2_beside 6 = .ok (.ior, 1) := by decide +kernel
theorem dX2_beside_7 : decode cX2_beside 7 = .ok (.istore_n 1, 1) := by decide +kernel
theorem dX2_beside_8 : decode cX2_beside 8 = .ok (.iload_n 0, 1) := by decide +kernel
theorem dX2_beside_9 : decode cX2_beside 9 = .ok (.ldc 16, 2) := by decide +kernel
theorem dX2_beside_11 : decode cX2_beside 11 = .ok (.iand, 1) := by decide +kernel
theorem dX2_beside_12 : decode cX2_beside 12 = .ok (.iconst 1, 1) := by decide +kernel
theorem dX2_beside_13 : decode cX2_beside 13 = .ok (.ishl, 1) := by decide +kernel
theorem dX2_beside_14 : decode cX2_beside 14 = .ok (.istore_n 2, 1) := by decide +kernel
theorem dX2_beside_15 : decode cX2_beside 15 = .ok (.iload_n 0, 1) := by decide +kernel
theorem dX2_beside_16 : decode cX2_beside 16 = .ok (.ldc 17, 2) := by decide +kernel
theorem dX2_beside_18 : decode cX2_beside 18 = .ok (.iand, 1) := by decide +kernel
theorem dX2_beside_19 : decode cX2_beside 19 = .ok (.iconst 1, 1) := by decide +kernel
theorem dX2_beside_20 : decode cX2_beside 20 = .ok (.iushr, 1) := by decide +kernel
theorem dX2_beside_21 : decode cX2_beside 21 = .ok (.istore_n 3, 1) := by decide +kernel
theorem dX2_beside_22 : decode cX2_beside 22 = .ok (.iload_n 1, 1) := by decide +kernel
theorem dX2_beside_23 : decode cX2_beside 23 = .ok (.iload_n 2, 1) := by decide +kernel
theorem dX2_beside_24 : decode cX2_beside 24 = .ok (.ior, 1) := by decide +kernel
theorem dX2_beside_25 : decode cX2_beside 25 = .ok (.iload_n 3, 1) := by decide +kernel
theorem dX2_beside_26 : decode cX2_beside 26 = .ok (.ior, 1) := by decide +kernel
theorem dX2_beside_27 : decode cX2_beside 27 = .ok (.ldc 18, 2) := by decide +kernel
theorem dX2_beside_29 : decode cX2_beside 29 = .ok (.iand, 1) := by decide +kernel
theorem dX2_beside_30 : decode cX2_beside 30 = .ok (.ireturn, 1) := by decide +kernel
theorem dX2_columnsOf_0 : decode cX2_columnsOf 0 = .ok (.iconst 0, 1) := by decide +kernel
theorem dX2_columnsOf_1 : decode cX2_columnsOf 1 = .ok (.istore_n 1, 1) := by decide +kernel
theorem dX2_columnsOf_2 : decode cX2_columnsOf 2 = .ok (.iconst 0, 1) := by decide +kernel
theorem dX2_columnsOf_3 : decode cX2_columnsOf 3 = .ok (.istore_n 2, 1) := by decide +kernel
theorem dX2_columnsOf_4 : decode cX2_columnsOf 4 = .ok (.iload_n 2, 1) := by decide +kernel
theorem dX2_columnsOf_5 : decode cX2_columnsOf 5 = .ok (.iconst 5, 1) := by decide +kernel
theorem dX2_columnsOf_6 : decode cX2_columnsOf 6 = .ok (.if_icmp .ge 24, 3) := by decide +kernel
theorem dX2_columnsOf_9 : decode cX2_columnsOf 9 = .ok (.ldc 15, 2) := by decide +kernel
theorem dX2_columnsOf_11 : decode cX2_columnsOf 11 = .ok (.iload_n 2, 1) := by decide +kernel
theorem dX2_columnsOf_12 : decode cX2_columnsOf 12 = .ok (.ishl, 1) := by decide +kernel
theorem dX2_columnsOf_13 : decode cX2_columnsOf 13 = .ok (.istore_n 3, 1) := by decide +kernel
theorem dX2_columnsOf_14 : decode cX2_columnsOf 14 = .ok (.iload_n 0, 1) := by decide +kernel
theorem dX2_columnsOf_15 : decode cX2_columnsOf 15 = .ok (.iload_n 3, 1) := by decide +kernel
theorem dX2_columnsOf_16 : decode cX2_columnsOf 16 = .ok (.iand, 1) := by decide +kernel
theorem dX2_columnsOf_17 : decode cX2_columnsOf 17 = .ok (.ifCond .eq 7, 3) := by decide +kernel
theorem dX2_columnsOf_20 : decode cX2_columnsOf 20 = .ok (.iload_n 1, 1) := by decide +kernel
theorem dX2_columnsOf_21 : decode cX2_columnsOf 21 = .ok (.iload_n 3, 1) := by decide +kernel
theorem dX2_columnsOf_22 : decode cX2_columnsOf 22 = .ok (.ior, 1) := by decide +kernel
theorem dX2_columnsOf_23 : decode cX2_columnsOf 23 = .ok (.istore_n 1, 1) := by decide +kernel
theorem dX2_columnsOf_24 : decode cX2_columnsOf 24 = .ok (.iinc 2 1, 3) := by decide +kernel
theorem dX2_columnsOf_27 : decode cX2_columnsOf 27 = .ok (.goto (-23), 3) := by decide +kernel
theorem dX2_columnsOf_30 : decode cX2_columnsOf 30 = .ok (.iload_n 1, 1) := by decide +kernel
theorem dX2_columnsOf_31 : decode cX2_columnsOf 31 = .ok (.ireturn, 1) := by decide +kernel
theorem dX2_flood_0 : decode cX2_flood 0 = .ok (.iload_n 0, 1) := by decide +kernel
theorem dX2_flood_1 : decode cX2_flood 1 = .ok (.istore_n 2, 1) := by decide +kernel
theorem dX2_flood_2 : decode cX2_flood 2 = .ok (.iconst 0, 1) := by decide +kernel
theorem dX2_flood_3 : decode cX2_flood 3 = .ok (.istore_n 3, 1) := by decide +kernel
theorem dX2_flood_4 : decode cX2_flood 4 = .ok (.iload_n 3, 1) := by decide +kernel
theorem dX2_flood_5 : decode cX2_flood 5 = .ok (.bipush 20, 2) := by decide +kernel
theorem dX2_flood_7 : decode cX2_flood 7 = .ok (.if_icmp .ge 30, 3) := by decide +kernel
theorem dX2_flood_10 : decode cX2_flood 10 = .ok (.iload_n 2, 1) := by decide +kernel
theorem dX2_flood_11 : decode cX2_flood 11 = .ok (.iload_n 2, 1) := by decide +kernel
theorem dX2_flood_12 : decode cX2_flood 12 = .ok (.invokestatic 19, 3) := by decide +kernel
theorem dX2_flood_15 : decode cX2_flood 15 = .ok (.iload_n 1, 1) := by decide +kernel
theorem dX2_flood_16 : decode cX2_flood 16 = .ok (.iand, 1) := by decide +kernel
theorem dX2_flood_17 : decode cX2_flood 17 = .ok (.ior, 1) := by decide +kernel
theorem dX2_flood_18 : decode cX2_flood 18 = .ok (.istore 4, 2) := by decide +kernel
theorem dX2_flood_20 : decode cX2_flood 20 = .ok (.iload 4, 2) := by decide +kernel
theorem dX2_flood_22 : decode cX2_flood 22 = .ok (.iload_n 2, 1) := by decide +kernel
theorem dX2_flood_23 : decode cX2_flood 23 = .ok (.if_icmp .ne 5, 3) := by decide +kernel
theorem dX2_flood_26 : decode cX2_flood 26 = .ok (.iload_n 2, 1) := by decide +kernel
theorem dX2_flood_27 : decode cX2_flood 27 = .ok (.ireturn, 1) := by decide +kernel
theorem dX2_flood_28 : decode cX2_flood 28 = .ok (.iload 4, 2) := by decide +kernel
theorem dX2_flood_30 : decode cX2_flood 30 = .ok (.istore_n 2, 1) := by decide +kernel
theorem dX2_flood_31 : decode cX2_flood 31 = .ok (.iinc 3 1, 3) := by decide +kernel
theorem dX2_flood_34 : decode cX2_flood 34 = .ok (.goto (-30), 3) := by decide +kernel
theorem dX2_flood_37 : decode cX2_flood 37 = .ok (.iload_n 2, 1) := by decide +kernel
theorem dX2_flood_38 : decode cX2_flood 38 = .ok (.ireturn, 1) := by decide +kernel
theorem dJ6_bitCount_0f7a4_0 : decode cJ6_bitCount_0f7a4 0 = .ok (.iload_n 0, 1) := by decide +kernel
theorem dJ6_bitCount_0f7a4_1 : decode cJ6_bitCount_0f7a4 1 = .ok (.iload_n 0, 1) := by decide +kernel
theorem dJ6_bitCount_0f7a4_2 : decode cJ6_bitCount_0f7a4 2 = .ok (.iconst 1, 1) := by decide +kernel
theorem dJ6_bitCount_0f7a4_3 : decode cJ6_bitCount_0f7a4 3 = .ok (.iushr, 1) := by decide +kernel
theorem dJ6_bitCount_0f7a4_4 : decode cJ6_bitCount_0f7a4 4 = .ok (.ldc_w 265, 3) := by decide +kernel
theorem dJ6_bitCount_0f7a4_7 : decode cJ6_bitCount_0f7a4 7 = .ok (.iand, 1) := by decide +kernel
theorem dJ6_bitCount_0f7a4_8 : decode cJ6_bitCount_0f7a4 8 = .ok (.isub, 1) := by decide +kernel
theorem dJ6_bitCount_0f7a4_9 : decode cJ6_bitCount_0f7a4 9 = .ok (.istore_n 0, 1) := by decide +kernel
theorem dJ6_bitCount_0f7a4_10 : decode cJ6_bitCount_0f7a4 10 = .ok (.iload_n 0, 1) := by decide +kernel
theorem dJ6_bitCount_0f7a4_11 : decode cJ6_bitCount_0f7a4 11 = .ok (.ldc_w 266, 3) := by decide +kernel
theorem dJ6_bitCount_0f7a4_14 : decode cJ6_bitCount_0f7a4 14 = .ok (.iand, 1) := by decide +kernel
theorem dJ6_bitCount_0f7a4_15 : decode cJ6_bitCount_0f7a4 15 = .ok (.iload_n 0, 1) := by decide +kernel
theorem dJ6_bitCount_0f7a4_16 : decode cJ6_bitCount_0f7a4 16 = .ok (.iconst 2, 1) := by decide +kernel
theorem dJ6_bitCount_0f7a4_17 : decode cJ6_bitCount_0f7a4 17 = .ok (.iushr, 1) := by decide +kernel
theorem dJ6_bitCount_0f7a4_18 : decode cJ6_bitCount_0f7a4 18 = .ok (.ldc_w 266, 3) := by decide +kernel
theorem dJ6_bitCount_0f7a4_21 : decode cJ6_bitCount_0f7a4 21 = .ok (.iand, 1) := by decide +kernel
theorem dJ6_bitCount_0f7a4_22 : decode cJ6_bitCount_0f7a4 22 = .ok (.iadd, 1) := by decide +kernel
theorem dJ6_bitCount_0f7a4_23 : decode cJ6_bitCount_0f7a4 23 = .ok (.istore_n 0, 1) := by decide +kernel
theorem dJ6_bitCount_0f7a4_24 : decode cJ6_bitCount_0f7a4 24 = .ok (.iload_n 0, 1) := by decide +kernel
theorem dJ6_bitCount_0f7a4_25 : decode cJ6_bitCount_0f7a4 25 = .ok (.iload_n 0, 1) := by decide +kernel
theorem dJ6_bitCount_0f7a4_26 : decode cJ6_bitCount_0f7a4 26 = .ok (.iconst 4, 1) := by decide +kernel
theorem dJ6_bitCount_0f7a4_27 : decode cJ6_bitCount_0f7a4 27 = .ok (.iushr, 1) := by decide +kernel
theorem dJ6_bitCount_0f7a4_28 : decode cJ6_bitCount_0f7a4 28 = .ok (.iadd, 1) := by decide +kernel
theorem dJ6_bitCount_0f7a4_29 : decode cJ6_bitCount_0f7a4 29 = .ok (.ldc_w 267, 3) := by decide +kernel
theorem dJ6_bitCount_0f7a4_32 : decode cJ6_bitCount_0f7a4 32 = .ok (.iand, 1) := by decide +kernel
theorem dJ6_bitCount_0f7a4_33 : decode cJ6_bitCount_0f7a4 33 = .ok (.istore_n 0, 1) := by decide +kernel
theorem dJ6_bitCount_0f7a4_34 : decode cJ6_bitCount_0f7a4 34 = .ok (.iload_n 0, 1) := by decide +kernel
theorem dJ6_bitCount_0f7a4_35 : decode cJ6_bitCount_0f7a4 35 = .ok (.iload_n 0, 1) := by decide +kernel
theorem dJ6_bitCount_0f7a4_36 : decode cJ6_bitCount_0f7a4 36 = .ok (.bipush 8, 2) := by decide +kernel
theorem dJ6_bitCount_0f7a4_38 : decode cJ6_bitCount_0f7a4 38 = .ok (.iushr, 1) := by decide +kernel
theorem dJ6_bitCount_0f7a4_39 : decode cJ6_bitCount_0f7a4 39 = .ok (.iadd, 1) := by decide +kernel
theorem dJ6_bitCount_0f7a4_40 : decode cJ6_bitCount_0f7a4 40 = .ok (.istore_n 0, 1) := by decide +kernel
theorem dJ6_bitCount_0f7a4_41 : decode cJ6_bitCount_0f7a4 41 = .ok (.iload_n 0, 1) := by decide +kernel
theorem dJ6_bitCount_0f7a4_42 : decode cJ6_bitCount_0f7a4 42 = .ok (.iload_n 0, 1) := by decide +kernel
theorem dJ6_bitCount_0f7a4_43 : decode cJ6_bitCount_0f7a4 43 = .ok (.bipush 16, 2) := by decide +kernel
theorem dJ6_bitCount_0f7a4_45 : decode cJ6_bitCount_0f7a4 45 = .ok (.iushr, 1) := by decide +kernel
theorem dJ6_bitCount_0f7a4_46 : decode cJ6_bitCount_0f7a4 46 = .ok (.iadd, 1) := by decide +kernel
theorem dJ6_bitCount_0f7a4_47 : decode cJ6_bitCount_0f7a4 47 = .ok (.istore_n 0, 1) := by decide +kernel
theorem dJ6_bitCount_0f7a4_48 : decode cJ6_bitCount_0f7a4 48 = .ok (.iload_n 0, 1) := by decide +kernel
theorem dJ6_bitCount_0f7a4_49 : decode cJ6_bitCount_0f7a4 49 = .ok (.bipush 63, 2) := by decide +kernel
theorem dJ6_bitCount_0f7a4_51 : decode cJ6_bitCount_0f7a4 51 = .ok (.iand, 1) := by decide +kernel
theorem dJ6_bitCount_0f7a4_52 : decode cJ6_bitCount_0f7a4 52 = .ok (.ireturn, 1) := by decide +kernel
theorem dJ9_max_7cf53_0 : decode cJ9_max_7cf53 0 = .ok (.iload_n 0, 1) := by decide +kernel
theorem dJ9_max_7cf53_1 : decode cJ9_max_7cf53 1 = .ok (.iload_n 1, 1) := by decide +kernel
theorem dJ9_max_7cf53_2 : decode cJ9_max_7cf53 2 = .ok (.if_icmp .lt 7, 3) := by decide +kernel
theorem dJ9_max_7cf53_5 : decode cJ9_max_7cf53 5 = .ok (.iload_n 0, 1) := by decide +kernel
theorem dJ9_max_7cf53_6 : decode cJ9_max_7cf53 6 = .ok (.goto 4, 3) := by decide +kernel
theorem dJ9_max_7cf53_9 : decode cJ9_max_7cf53 9 = .ok (.iload_n 1, 1) := by decide +kernel
theorem dJ9_max_7cf53_10 : decode cJ9_max_7cf53 10 = .ok (.ireturn, 1) := by decide +kernel
theorem dX2_largestPatch_0 : decode cX2_largestPatch 0 = .ok (.iload_n 0, 1) := by decide +kernel
theorem dX2_largestPatch_1 : decode cX2_largestPatch 1 = .ok (.istore_n 1, 1) := by decide +kernel
theorem dX2_largestPatch_2 : decode cX2_largestPatch 2 = .ok (.iconst 0, 1) := by decide +kernel
theorem dX2_largestPatch_3 : decode cX2_largestPatch 3 = .ok (.istore_n 2, 1) := by decide +kernel
theorem dX2_largestPatch_4 : decode cX2_largestPatch 4 = .ok (.iconst 0, 1) := by decide +kernel
theorem dX2_largestPatch_5 : decode cX2_largestPatch 5 = .ok (.istore_n 3, 1) := by decide +kernel
theorem dX2_largestPatch_6 : decode cX2_largestPatch 6 = .ok (.iload_n 3, 1) := by decide +kernel
theorem dX2_largestPatch_7 : decode cX2_largestPatch 7 = .ok (.bipush 20, 2) := by decide +kernel
theorem dX2_largestPatch_9 : decode cX2_largestPatch 9 = .ok (.if_icmp .ge 40, 3) := by decide +kernel
theorem dX2_largestPatch_12 : decode cX2_largestPatch 12 = .ok (.iload_n 1, 1) := by decide +kernel
theorem dX2_largestPatch_13 : decode cX2_largestPatch 13 = .ok (.ifCond .eq 36, 3) := by decide +kernel
theorem dX2_largestPatch_16 : decode cX2_largestPatch 16 = .ok (.iload_n 1, 1) := by decide +kernel
theorem dX2_largestPatch_17 : decode cX2_largestPatch 17 = .ok (.invokestatic 23, 3) := by decide +kernel
theorem dX2_largestPatch_20 : decode cX2_largestPatch 20 = .ok (.iload_n 1, 1) := by decide +kernel
theorem dX2_largestPatch_21 : decode cX2_largestPatch 21 = .ok (.invokestatic 26, 3) := by decide +kernel
theorem dX2_largestPatch_24 : decode cX2_largestPatch 24 = .ok (.istore 4, 2) := by decide +kernel
theorem dX2_largestPatch_26 : decode cX2_largestPatch 26 = .ok (.iload_n 2, 1) := by decide +kernel
theorem dX2_largestPatch_27 : decode cX2_largestPatch 27 = .ok (.iload 4, 2) := by decide +kernel
theorem dX2_largestPatch_29 : decode cX2_largestPatch 29 = .ok (.invokestatic 30, 3) := by decide +kernel
theorem dX2_largestPatch_32 : decode cX2_largestPatch 32 = .ok (.invokestatic 35, 3) := by decide +kernel
theorem dX2_largestPatch_35 : decode cX2_largestPatch 35 = .ok (.istore_n 2, 1) := by decide +kernel
theorem dX2_largestPatch_36 : decode cX2_largestPatch 36 = .ok (.iload_n 1, 1) := by decide +kernel
theorem dX2_largestPatch_37 : decode cX2_largestPatch 37 = .ok (.iload 4, 2) := by decide +kernel
theorem dX2_largestPatch_39 : decode cX2_largestPatch 39 = .ok (.iconst (-1), 1) := by decide +kernel
theorem dX2_largestPatch_40 : decode cX2_largestPatch 40 = .ok (.ixor, 1) := by decide +kernel
theorem dX2_largestPatch_41 : decode cX2_largestPatch 41 = .ok (.iand, 1) := by decide +kernel
theorem dX2_largestPatch_42 : decode cX2_largestPatch 42 = .ok (.istore_n 1, 1) := by decide +kernel
theorem dX2_largestPatch_43 : decode cX2_largestPatch 43 = .ok (.iinc 3 1, 3) := by decide +kernel
theorem dX2_largestPatch_46 : decode cX2_largestPatch 46 = .ok (.goto (-40), 3) := by decide +kernel
theorem dX2_largestPatch_49 : decode cX2_largestPatch 49 = .ok (.iload_n 2, 1) := by decide +kernel
theorem dX2_largestPatch_50 : decode cX2_largestPatch 50 = .ok (.ireturn, 1) := by decide +kernel
theorem dX2_steps_0 : decode cX2_steps 0 = .ok (.iload_n 0, 1) := by decide +kernel
theorem dX2_steps_1 : decode cX2_steps 1 = .ok (.iload_n 1, 1) := by decide +kernel
theorem dX2_steps_2 : decode cX2_steps 2 = .ok (.if_icmp .ne 5, 3) := by decide +kernel
theorem dX2_steps_5 : decode cX2_steps 5 = .ok (.iconst 0, 1) := by decide +kernel
theorem dX2_steps_6 : decode cX2_steps 6 = .ok (.ireturn, 1) := by decide +kernel
theorem dX2_steps_7 : decode cX2_steps 7 = .ok (.iload_n 1, 1) := by decide +kernel
theorem dX2_steps_8 : decode cX2_steps 8 = .ok (.invokestatic 40, 3) := by decide +kernel
theorem dX2_steps_11 : decode cX2_steps 11 = .ok (.istore_n 3, 1) := by decide +kernel
theorem dX2_steps_12 : decode cX2_steps 12 = .ok (.iload_n 0, 1) := by decide +kernel
theorem dX2_steps_13 : decode cX2_steps 13 = .ok (.invokestatic 40, 3) := by decide +kernel
theorem dX2_steps_16 : decode cX2_steps 16 = .ok (.iload_n 2, 1) := by decide +kernel
theorem dX2_steps_17 : decode cX2_steps 17 = .ok (.iand, 1) := by decide +kernel
theorem dX2_steps_18 : decode cX2_steps 18 = .ok (.istore 4, 2) := by decide +kernel
theorem dX2_steps_20 : decode cX2_steps 20 = .ok (.iconst 1, 1) := by decide +kernel
theorem dX2_steps_21 : decode cX2_steps 21 = .ok (.istore 5, 2) := by decide +kernel
theorem dX2_steps_23 : decode cX2_steps 23 = .ok (.iload 5, 2) := by decide +kernel
theorem dX2_steps_25 : decode cX2_steps 25 = .ok (.bipush 20, 2) := by decide +kernel
theorem dX2_steps_27 : decode cX2_steps 27 = .ok (.if_icmp .ge 31, 3) := by decide +kernel
theorem dX2_steps_30 : decode cX2_steps 30 = .ok (.iload 4, 2) := by decide +kernel
theorem dX2_steps_32 : decode cX2_steps 32 = .ok (.iload 4, 2) := by decide +kernel
theorem dX2_steps_34 : decode cX2_steps 34 = .ok (.invokestatic 19, 3) := by decide +kernel
theorem dX2_steps_37 : decode cX2_steps 37 = .ok (.iload_n 2, 1) := by decide +kernel
theorem dX2_steps_38 : decode cX2_steps 38 = .ok (.iand, 1) := by decide +kernel
theorem dX2_steps_39 : decode cX2_steps 39 = .ok (.ior, 1) := by decide +kernel
theorem dX2_steps_40 : decode cX2_steps 40 = .ok (.istore 4, 2) := by decide +kernel
theorem dX2_steps_42 : decode cX2_steps 42 = .ok (.iload 4, 2) := by decide +kernel
theorem dX2_steps_44 : decode cX2_steps 44 = .ok (.iload_n 3, 1) := by decide +kernel
theorem dX2_steps_45 : decode cX2_steps 45 = .ok (.iand, 1) := by decide +kernel
theorem dX2_steps_46 : decode cX2_steps 46 = .ok (.ifCond .eq 6, 3) := by decide +kernel
theorem dX2_steps_49 : decode cX2_steps 49 = .ok (.iload 5, 2) := by decide +kernel
theorem dX2_steps_51 : decode cX2_steps 51 = .ok (.ireturn, 1) := by decide +kernel
theorem dX2_steps_52 : decode cX2_steps 52 = .ok (.iinc 5 1, 3) := by decide +kernel
theorem dX2_steps_55 : decode cX2_steps 55 = .ok (.goto (-32), 3) := by decide +kernel
theorem dX2_steps_58 : decode cX2_steps 58 = .ok (.bipush (-9), 2) := by decide +kernel
theorem dX2_steps_60 : decode cX2_steps 60 = .ok (.ireturn, 1) := by decide +kernel
theorem dX2_fewestGnawed_0 : decode cX2_fewestGnawed 0 = .ok (.iload_n 0, 1) := by decide +kernel
theorem dX2_fewestGnawed_1 : decode cX2_fewestGnawed 1 = .ok (.iload_n 1, 1) := by decide +kernel
theorem dX2_fewestGnawed_2 : decode cX2_fewestGnawed 2 = .ok (.if_icmp .ne 5, 3) := by decide +kernel
theorem dX2_fewestGnawed_5 : decode cX2_fewestGnawed 5 = .ok (.iconst 0, 1) := by decide +kernel
theorem dX2_fewestGnawed_6 : decode cX2_fewestGnawed 6 = .ok (.ireturn, 1) := by decide +kernel
theorem dX2_fewestGnawed_7 : decode cX2_fewestGnawed 7 = .ok (.iload_n 1, 1) := by decide +kernel
theorem dX2_fewestGnawed_8 : decode cX2_fewestGnawed 8 = .ok (.invokestatic 40, 3) := by decide +kernel
theorem dX2_fewestGnawed_11 : decode cX2_fewestGnawed 11 = .ok (.istore 4, 2) := by decide +kernel
theorem dX2_fewestGnawed_13 : decode cX2_fewestGnawed 13 = .ok (.iload_n 0, 1) := by decide +kernel
theorem dX2_fewestGnawed_14 : decode cX2_fewestGnawed 14 = .ok (.invokestatic 40, 3) := by decide +kernel
theorem dX2_fewestGnawed_17 : decode cX2_fewestGnawed 17 = .ok (.iload_n 2, 1) := by decide +kernel
theorem dX2_fewestGnawed_18 : decode cX2_fewestGnawed 18 = .ok (.iand, 1) := by decide +kernel
theorem dX2_fewestGnawed_19 : decode cX2_fewestGnawed 19 = .ok (.istore 5, 2) := by decide +kernel
theorem dX2_fewestGnawed_21 : decode cX2_fewestGnawed 21 = .ok (.iconst 0, 1) := by decide +kernel
theorem dX2_fewestGnawed_22 : decode cX2_fewestGnawed 22 = .ok (.istore 6, 2) := by decide +kernel
theorem dX2_fewestGnawed_24 : decode cX2_fewestGnawed 24 = .ok (.iload 6, 2) := by decide +kernel
theorem dX2_fewestGnawed_26 : decode cX2_fewestGnawed 26 = .ok (.bipush 20, 2) := by decide +kernel
theorem dX2_fewestGnawed_28 : decode cX2_fewestGnawed 28 = .ok (.if_icmp .gt 45, 3) := by decide +kernel
theorem dX2_fewestGnawed_31 : decode cX2_fewestGnawed 31 = .ok (.iload 5, 2) := by decide +kernel
theorem dX2_fewestGnawed_33 : decode cX2_fewestGnawed 33 = .ok (.iload_n 2, 1) := by decide +kernel
theorem dX2_fewestGnawed_34 : decode cX2_fewestGnawed 34 = .ok (.invokestatic 26, 3) := by decide +kernel
theorem dX2_fewestGnawed_37 : decode cX2_fewestGnawed 37 = .ok (.istore 5, 2) := by decide +kernel
theorem dX2_fewestGnawed_39 : decode cX2_fewestGnawed 39 = .ok (.iload 5, 2) := by decide +kernel
theorem dX2_fewestGnawed_41 : decode cX2_fewestGnawed 41 = .ok (.iload 4, 2) := by decide +kernel
theorem dX2_fewestGnawed_43 : decode cX2_fewestGnawed 43 = .ok (.iand, 1) := by decide +kernel
theorem dX2_fewestGnawed_44 : decode cX2_fewestGnawed 44 = .ok (.ifCond .eq 6, 3) := by decide +kernel
theorem dX2_fewestGnawed_47 : decode cX2_fewestGnawed 47 = .ok (.iload 6, 2) := by decide +kernel
theorem dX2_fewestGnawed_49 : decode cX2_fewestGnawed 49 = .ok (.ireturn, 1) := by decide +kernel
theorem dX2_fewestGnawed_50 : decode cX2_fewestGnawed 50 = .ok (.iload 5, 2) := by decide +kernel
theorem dX2_fewestGnawed_52 : decode cX2_fewestGnawed 52 = .ok (.iload 5, 2) := by decide +kernel
theorem dX2_fewestGnawed_54 : decode cX2_fewestGnawed 54 = .ok (.invokestatic 19, 3) := by decide +kernel
theorem dX2_fewestGnawed_57 : decode cX2_fewestGnawed 57 = .ok (.iload_n 0, 1) := by decide +kernel
theorem dX2_fewestGnawed_58 : decode cX2_fewestGnawed 58 = .ok (.invokestatic 40, 3) := by decide +kernel
theorem dX2_fewestGnawed_61 : decode cX2_fewestGnawed 61 = .ok (.ior, 1) := by decide +kernel
theorem dX2_fewestGnawed_62 : decode cX2_fewestGnawed 62 = .ok (.iload_n 3, 1) := by decide +kernel
theorem dX2_fewestGnawed_63 : decode cX2_fewestGnawed 63 = .ok (.iand, 1) := by decide +kernel
theorem dX2_fewestGnawed_64 : decode cX2_fewestGnawed 64 = .ok (.ior, 1) := by decide +kernel
theorem dX2_fewestGnawed_65 : decode cX2_fewestGnawed 65 = .ok (.istore 5, 2) := by decide +kernel
theorem dX2_fewestGnawed_67 : decode cX2_fewestGnawed 67 = .ok (.iinc 6 1, 3) := by decide +kernel
theorem dX2_fewestGnawed_70 : decode cX2_fewestGnawed 70 = .ok (.goto (-46), 3) := by decide +kernel
theorem dX2_fewestGnawed_73 : decode cX2_fewestGnawed 73 = .ok (.bipush (-9), 2) := by decide +kernel
theorem dX2_fewestGnawed_75 : decode cX2_fewestGnawed 75 = .ok (.ireturn, 1) := by decide +kernel
theorem dX3_get_0 : decode cX3_get 0 = .ok (.iload_n 1, 1) := by decide +kernel
theorem dX3_get_1 : decode cX3_get 1 = .ok (.ifCond .lt 15, 3) := by decide +kernel
theorem dX3_get_4 : decode cX3_get 4 = .ok (.iload_n 1, 1) := by decide +kernel
theorem dX3_get_5 : decode cX3_get 5 = .ok (.aload_n 0, 1) := by decide +kernel
theorem dX3_get_6 : decode cX3_get 6 = .ok (.arraylength, 1) := by decide +kernel
theorem dX3_get_7 : decode cX3_get 7 = .ok (.if_icmp .ge 9, 3) := by decide +kernel
theorem dX3_get_10 : decode cX3_get 10 = .ok (.aload_n 0, 1) := by decide +kernel
theorem dX3_get_11 : decode cX3_get 11 = .ok (.iload_n 1, 1) := by decide +kernel
theorem dX3_get_12 : decode cX3_get 12 = .ok (.iaload, 1) := by decide +kernel
theorem dX3_get_13 : decode cX3_get 13 = .ok (.goto 5, 3) := by decide +kernel
theorem dX3_get_16 : decode cX3_get 16 = .ok (.bipush (-9), 2) := by decide +kernel
theorem dX3_get_18 : decode cX3_get 18 = .ok (.ireturn, 1) := by decide +kernel
theorem dX3_put_0 : decode cX3_put 0 = .ok (.iload_n 1, 1) := by decide +kernel
theorem dX3_put_1 : decode cX3_put 1 = .ok (.ifCond .lt 13, 3) := by decide +kernel
theorem dX3_put_4 : decode cX3_put 4 = .ok (.iload_n 1, 1) := by decide +kernel
theorem dX3_put_5 : decode cX3_put 5 = .ok (.aload_n 0, 1) := by decide +kernel
theorem dX3_put_6 : decode cX3_put 6 = .ok (.arraylength, 1) := by decide +kernel
theorem dX3_put_7 : decode cX3_put 7 = .ok (.if_icmp .ge 7, 3) := by decide +kernel
theorem dX3_put_10 : decode cX3_put 10 = .ok (.aload_n 0, 1) := by decide +kernel
theorem dX3_put_11 : decode cX3_put 11 = .ok (.iload_n 1, 1) := by decide +kernel
theorem dX3_put_12 : decode cX3_put 12 = .ok (.iload_n 2, 1) := by decide +kernel
theorem dX3_put_13 : decode cX3_put 13 = .ok (.iastore, 1) := by decide +kernel
theorem dX3_put_14 : decode cX3_put 14 = .ok (.return_, 1) := by decide +kernel
theorem dX3_add_0 : decode cX3_add 0 = .ok (.iload_n 1, 1) := by decide +kernel
theorem dX3_add_1 : decode cX3_add 1 = .ok (.ifCond .lt 16, 3) := by decide +kernel
theorem dX3_add_4 : decode cX3_add 4 = .ok (.iload_n 1, 1) := by decide +kernel
theorem dX3_add_5 : decode cX3_add 5 = .ok (.aload_n 0, 1) := by decide +kernel
theorem dX3_add_6 : decode cX3_add 6 = .ok (.arraylength, 1) := by decide +kernel
theorem dX3_add_7 : decode cX3_add 7 = .ok (.if_icmp .ge 10, 3) := by decide +kernel
theorem dX3_add_10 : decode cX3_add 10 = .ok (.aload_n 0, 1) := by decide +kernel
theorem dX3_add_11 : decode cX3_add 11 = .ok (.iload_n 1, 1) := by decide +kernel
theorem dX3_add_12 : decode cX3_add 12 = .ok (.dup2, 1) := by decide +kernel
theorem dX3_add_13 : decode cX3_add 13 = .ok (.iaload, 1) := by decide +kernel
theorem dX3_add_14 : decode cX3_add 14 = .ok (.iload_n 2, 1) := by decide +kernel
theorem dX3_add_15 : decode cX3_add 15 = .ok (.iadd, 1) := by decide +kernel
theorem dX3_add_16 : decode cX3_add 16 = .ok (.iastore, 1) := by decide +kernel
theorem dX3_add_17 : decode cX3_add 17 = .ok (.return_, 1) := by decide +kernel
theorem dJ9_abs_0f7a4_0 : decode cJ9_abs_0f7a4 0 = .ok (.iload_n 0, 1) := by decide +kernel
theorem dJ9_abs_0f7a4_1 : decode cJ9_abs_0f7a4 1 = .ok (.ifCond .ge 8, 3) := by decide +kernel
theorem dJ9_abs_0f7a4_4 : decode cJ9_abs_0f7a4 4 = .ok (.iload_n 0, 1) := by decide +kernel
theorem dJ9_abs_0f7a4_5 : decode cJ9_abs_0f7a4 5 = .ok (.ineg, 1) := by decide +kernel
theorem dJ9_abs_0f7a4_6 : decode cJ9_abs_0f7a4 6 = .ok (.goto 4, 3) := by decide +kernel
theorem dJ9_abs_0f7a4_9 : decode cJ9_abs_0f7a4 9 = .ok (.iload_n 0, 1) := by decide +kernel
theorem dJ9_abs_0f7a4_10 : decode cJ9_abs_0f7a4 10 = .ok (.ireturn, 1) := by decide +kernel
theorem dJ7_fill_53178_0 : decode cJ7_fill_53178 0 = .ok (.iconst 0, 1) := by decide +kernel
theorem dJ7_fill_53178_1 : decode cJ7_fill_53178 1 = .ok (.istore_n 2, 1) := by decide +kernel
theorem dJ7_fill_53178_2 : decode cJ7_fill_53178 2 = .ok (.aload_n 0, 1) := by decide +kernel
theorem dJ7_fill_53178_3 : decode cJ7_fill_53178 3 = .ok (.arraylength, 1) := by decide +kernel
theorem dJ7_fill_53178_4 : decode cJ7_fill_53178 4 = .ok (.istore_n 3, 1) := by decide +kernel
theorem dJ7_fill_53178_5 : decode cJ7_fill_53178 5 = .ok (.iload_n 2, 1) := by decide +kernel
theorem dJ7_fill_53178_6 : decode cJ7_fill_53178 6 = .ok (.iload_n 3, 1) := by decide +kernel
theorem dJ7_fill_53178_7 : decode cJ7_fill_53178 7 = .ok (.if_icmp .ge 13, 3) := by decide +kernel
theorem dJ7_fill_53178_10 : decode cJ7_fill_53178 10 = .ok (.aload_n 0, 1) := by decide +kernel
theorem dJ7_fill_53178_11 : decode cJ7_fill_53178 11 = .ok (.iload_n 2, 1) := by decide +kernel
theorem dJ7_fill_53178_12 : decode cJ7_fill_53178 12 = .ok (.iload_n 1, 1) := by decide +kernel
theorem dJ7_fill_53178_13 : decode cJ7_fill_53178 13 = .ok (.iastore, 1) := by decide +kernel
theorem dJ7_fill_53178_14 : decode cJ7_fill_53178 14 = .ok (.iinc 2 1, 3) := by decide +kernel
theorem dJ7_fill_53178_17 : decode cJ7_fill_53178 17 = .ok (.goto (-12), 3) := by decide +kernel
theorem dJ7_fill_53178_20 : decode cJ7_fill_53178 20 = .ok (.return_, 1) := by decide +kernel
def wp_X2_hasCell (p0 : Int32) (Q : Int32 → Prop) : Prop := ((p0 < 0 → Q (0 : Int32)) ∧ (¬ p0 < 0 → (((20 : Int32) ≤ p0 → Q (0 : Int32)) ∧ (¬ (20 : Int32) ≤ p0 → Q (1 : Int32)))))
set_option maxHeartbeats 4000000 in
set_option maxRecDepth 100000 in
theorem c_X2_hasCell (l : Launch) (D : va_G) (cI cZ cW : ClassId)  (p0 : Int32) (Q : Int32 → Prop) (hf : wp_X2_hasCell p0 Q) : Met l yX2_hasCell (wsA yX2_hasCell cX2_hasCell 1 (some .boolean)) ({ frames := 0, cells := 0, slots := 0, locals := 0 }) (PR D cI cZ cW [.int p0] ([] : va_W)) (vp_Si Q) 0 0 (fun _ => False) := by
  refine Met.ofW (cc := cX2_hasCell) (maxL := 1) (ret := (some .boolean)) (by decide) rfl ?_
  intro p e s m args below meth c s₁ B hml hv
  obtain ⟨rfl, hP, hK⟩ := hv
  have hx := B.exec
  have hb := B.bytes
  have hr := B.returns
  have hts := atoms_spec (ws := (wsA yX2_hasCell cX2_hasCell 1 (some .boolean))) B.pre
  have ht : ∀ w ∈ lw_g, w.before _ s = true := fun w h => hts w (List.mem_cons_of_mem _ h)
  have hown : s.vm.findClass RX2 = some m.cls := findClass_of_methodNamed B.named
  have hlocks := B.notSynchronized
  have hl := lv_entry ([.int p0]) (n := 1) (Nat.le_of_ble_eq_true rfl)
  rw [lg_entry_eq]
  generalize (lg_sl ([.int p0]) ++ List.replicate (1 - (lg_sl ([.int p0])).length) Slot.unset).toArray = ls at hl ⊢
  have hl : lv_has ls 1 [(0, .int p0)] := hl
  unfold wp_X2_hasCell at hf
  refine lv_iload_n hx hb dX2_hasCell_0 rfl (lv_at hl 0 rfl) ?_
  refine lv_if_lt (tgt := 14) hx hb dX2_hasCell_1 (by decide) (fun c_1 => ?_) (fun c_1 => ?_)
  · have hf := hf.1 c_1
    refine lv_iconst (v := (0 : Int32)) hx hb dX2_hasCell_14 (by decide) ?_
    exact W.zret (v := (0 : Int32)) hx hb hr rfl (fun t ht hW => ⟨(0 : Int32), rfl, hf, ht⟩) (fun q h => absurd h List.not_mem_nil) dX2_hasCell_15
  · have hf := hf.2 c_1
    refine lv_iload_n hx hb dX2_hasCell_4 rfl (lv_at hl 0 rfl) ?_
    refine lv_bipush (v := (20 : Int32)) hx hb dX2_hasCell_5 (by decide) ?_
    refine lv_icmp_ge (tgt := 14) hx hb dX2_hasCell_7 (by decide) (fun c_2 => ?_) (fun c_2 => ?_)
    · have hf := hf.1 c_2
      refine lv_iconst (v := (0 : Int32)) hx hb dX2_hasCell_14 (by decide) ?_
      exact W.zret (v := (0 : Int32)) hx hb hr rfl (fun t ht hW => ⟨(0 : Int32), rfl, hf, ht⟩) (fun q h => absurd h List.not_mem_nil) dX2_hasCell_15
    · have hf := hf.2 c_2
      refine lv_iconst (v := (1 : Int32)) hx hb dX2_hasCell_10 (by decide) ?_
      refine lv_goto (tgt := 15) hx hb dX2_hasCell_11 (by decide) ?_
      exact W.zret (v := (1 : Int32)) hx hb hr rfl (fun t ht hW => ⟨(1 : Int32), rfl, hf, ht⟩) (fun q h => absurd h List.not_mem_nil) dX2_hasCell_15
def wp_X2_bitOf (p0 : Int32) (Q : Int32 → Prop) : Prop := wp_X2_hasCell p0 (fun r_1 => ((r_1 = 0 → Q (0 : Int32)) ∧ (¬ r_1 = 0 → Q ((1 : Int32) <<< (p0 &&& 31)))))
set_option maxHeartbeats 4000000 in
set_option maxRecDepth 100000 in
theorem c_X2_bitOf (l : Launch) (D : va_G) (cI cZ cW : ClassId)  (p0 : Int32) (Q : Int32 → Prop) (hf : wp_X2_bitOf p0 Q) : Met l yX2_bitOf (wsA yX2_bitOf cX2_bitOf 1 (some .int)) ({ frames := 1, cells := 0, slots := 0, locals := 20 }) (PR D cI cZ cW [.int p0] ([] : va_W)) (vp_Si Q) 0 0 (fun _ => False) := by
  refine Met.ofW (cc := cX2_bitOf) (maxL := 1) (ret := (some .int)) (by decide) rfl ?_
  intro p e s m args below meth c s₁ B hml hv
  obtain ⟨rfl, hP, hK⟩ := hv
  have hx := B.exec
  have hb := B.bytes
  have hr := B.returns
  have hts := atoms_spec (ws := (wsA yX2_bitOf cX2_bitOf 1 (some .int))) B.pre
  have ht : ∀ w ∈ lw_g, w.before _ s = true := fun w h => hts w (List.mem_cons_of_mem _ h)
  have hown : s.vm.findClass RX2 = some m.cls := findClass_of_methodNamed B.named
  have hlocks := B.notSynchronized
  have hl := lv_entry ([.int p0]) (n := 1) (Nat.le_of_ble_eq_true rfl)
  rw [lg_entry_eq]
  generalize (lg_sl ([.int p0]) ++ List.replicate (1 - (lg_sl ([.int p0])).length) Slot.unset).toArray = ls at hl ⊢
  have hl : lv_has ls 1 [(0, .int p0)] := hl
  unfold wp_X2_bitOf at hf
  refine lv_iload_n hx hb dX2_bitOf_0 rfl (lv_at hl 0 rfl) ?_
  have hPc : va_P D classes ([] : va_W) s.heap := hP
  refine vp_callSi (W.runS (As := [.int p0]) (rest := []) ⟨hx, hb, hml, hown, hts⟩ (c_X2_hasCell l D cI cZ cW  p0 _ hf) ⟨callB_of 1 hts (gA tw_245) rfl rfl rfl (ht _ tw_9) (ht _ tw_249) hd_X2_hasCell ⟨Nat.le_of_ble_eq_true rfl, Nat.le_of_ble_eq_true rfl⟩, ht _ tw_244⟩ ⟨PR_blind, fun U hU hW => PR_mk hPc hK hU hW⟩ rfl rfl hl.1 rfl (lv_room (Nat.le_of_ble_eq_true rfl)) dX2_bitOf_1 ⟨Nat.zero_le _, Nat.zero_le _⟩) (fun r_1 hf => ?_)
  refine lv_if_eq (tgt := 13) hx hb dX2_bitOf_4 (by decide) (fun c_2 => ?_) (fun c_2 => ?_)
  · have hf := hf.1 c_2
    refine lv_iconst (v := (0 : Int32)) hx hb dX2_bitOf_13 (by decide) ?_
    exact W.iret (v := (0 : Int32)) hx hb hr (fun t ht hW => ⟨(0 : Int32), rfl, hf, ht⟩) (fun q h => absurd h List.not_mem_nil) dX2_bitOf_14
  · have hf := hf.2 c_2
    refine lv_iconst (v := (1 : Int32)) hx hb dX2_bitOf_7 (by decide) ?_
    refine lv_iload_n hx hb dX2_bitOf_8 rfl (lv_at hl 0 rfl) ?_
    refine lv_ishl hx hb dX2_bitOf_9 ?_
    refine lv_goto (tgt := 14) hx hb dX2_bitOf_10 (by decide) ?_
    exact W.iret (v := ((1 : Int32) <<< (p0 &&& 31))) hx hb hr (fun t ht hW => ⟨((1 : Int32) <<< (p0 &&& 31)), rfl, hf, ht⟩) (fun q h => absurd h List.not_mem_nil) dX2_bitOf_14
def wp_X2_rowCells (p0 : Int32) (Q : Int32 → Prop) : Prop := ((p0 < 0 → Q (0 : Int32)) ∧ (¬ p0 < 0 → (((4 : Int32) ≤ p0 → Q (0 : Int32)) ∧ (¬ (4 : Int32) ≤ p0 → Q ((31 : Int32) <<< (((5 : Int32) * p0) &&& 31))))))
set_option maxHeartbeats 4000000 in
set_option maxRecDepth 100000 in
theorem c_X2_rowCells (l : Launch) (D : va_G) (cI cZ cW : ClassId)  (p0 : Int32) (Q : Int32 → Prop) (hf : wp_X2_rowCells p0 Q) : Met l yX2_rowCells (wsA yX2_rowCells cX2_rowCells 1 (some .int)) ({ frames := 0, cells := 0, slots := 0, locals := 0 }) (PR D cI cZ cW [.int p0] ([] : va_W)) (vp_Si Q) 0 0 (fun _ => False) := by
  refine Met.ofW (cc := cX2_rowCells) (maxL := 1) (ret := (some .int)) (by decide) rfl ?_
  intro p e s m args below meth c s₁ B hml hv
  obtain ⟨rfl, hP, hK⟩ := hv
  have hx := B.exec
  have hb := B.bytes
  have hr := B.returns
  have hts := atoms_spec (ws := (wsA yX2_rowCells cX2_rowCells 1 (some .int))) B.pre
  have ht : ∀ w ∈ lw_g, w.before _ s = true := fun w h => hts w (List.mem_cons_of_mem _ h)
  have hown : s.vm.findClass RX2 = some m.cls := findClass_of_methodNamed B.named
  have hlocks := B.notSynchronized
  have hl := lv_entry ([.int p0]) (n := 1) (Nat.le_of_ble_eq_true rfl)
  rw [lg_entry_eq]
  generalize (lg_sl ([.int p0]) ++ List.replicate (1 - (lg_sl ([.int p0])).length) Slot.unset).toArray = ls at hl ⊢
  have hl : lv_has ls 1 [(0, .int p0)] := hl
  unfold wp_X2_rowCells at hf
  refine lv_iload_n hx hb dX2_rowCells_0 rfl (lv_at hl 0 rfl) ?_
  refine lv_if_lt (tgt := 18) hx hb dX2_rowCells_1 (by decide) (fun c_1 => ?_) (fun c_1 => ?_)
  · have hf := hf.1 c_1
    refine lv_iconst (v := (0 : Int32)) hx hb dX2_rowCells_18 (by decide) ?_
    exact W.iret (v := (0 : Int32)) hx hb hr (fun t ht hW => ⟨(0 : Int32), rfl, hf, ht⟩) (fun q h => absurd h List.not_mem_nil) dX2_rowCells_19
  · have hf := hf.2 c_1
    refine lv_iload_n hx hb dX2_rowCells_4 rfl (lv_at hl 0 rfl) ?_
    refine lv_iconst (v := (4 : Int32)) hx hb dX2_rowCells_5 (by decide) ?_
    refine lv_icmp_ge (tgt := 18) hx hb dX2_rowCells_6 (by decide) (fun c_2 => ?_) (fun c_2 => ?_)
    · have hf := hf.1 c_2
      refine lv_iconst (v := (0 : Int32)) hx hb dX2_rowCells_18 (by decide) ?_
      exact W.iret (v := (0 : Int32)) hx hb hr (fun t ht hW => ⟨(0 : Int32), rfl, hf, ht⟩) (fun q h => absurd h List.not_mem_nil) dX2_rowCells_19
    · have hf := hf.2 c_2
      refine lv_bipush (v := (31 : Int32)) hx hb dX2_rowCells_9 (by decide) ?_
      refine lv_iconst (v := (5 : Int32)) hx hb dX2_rowCells_11 (by decide) ?_
      refine lv_iload_n hx hb dX2_rowCells_12 rfl (lv_at hl 0 rfl) ?_
      refine lv_imul hx hb dX2_rowCells_13 ?_
      refine lv_ishl hx hb dX2_rowCells_14 ?_
      refine lv_goto (tgt := 19) hx hb dX2_rowCells_15 (by decide) ?_
      exact W.iret (v := ((31 : Int32) <<< (((5 : Int32) * p0) &&& 31))) hx hb hr (fun t ht hW => ⟨((31 : Int32) <<< (((5 : Int32) * p0) &&& 31)), rfl, hf, ht⟩) (fun q h => absurd h List.not_mem_nil) dX2_rowCells_19
def B_X2_cellsLeftOf_21 (G4 : (Int32 × Int32 × Int32) → Prop)  (x0 : Int32) (x1 : Int32) (x2 : Int32) (Q : Int32 → Prop) : Prop := ∀ x2_1 : Int32, x2_1 = x2 + (1 : Int32) → G4 (x0, x1, x2_1)
def LB_X2_cellsLeftOf_4 (G4 : (Int32 × Int32 × Int32) → Prop)  (x0 : Int32) (x1 : Int32) (x2 : Int32) (Q : Int32 → Prop) : Prop := (((5 : Int32) ≤ x2 → Q x1) ∧ (¬ (5 : Int32) ≤ x2 → ((x0 ≤ x2 → B_X2_cellsLeftOf_21 G4  x0 x1 x2 Q) ∧ (¬ x0 ≤ x2 → ∀ x1_4 : Int32, x1_4 = (x1 ||| ((33825 : Int32) <<< (x2 &&& 31))) → B_X2_cellsLeftOf_21 G4  x0 x1_4 x2 Q))))
def B_X2_cellsLeftOf_4  (x0 : Int32) (x1 : Int32) (x2 : Int32) (Q : Int32 → Prop) : Prop := LOOP (fun (G4 : (Int32 × Int32 × Int32) → Prop) z => LB_X2_cellsLeftOf_4 G4  z.1 z.2.1 z.2.2 Q) (x0, x1, x2)
def wp_X2_cellsLeftOf (p0 : Int32) (Q : Int32 → Prop) : Prop := B_X2_cellsLeftOf_4  p0 (0 : Int32) (0 : Int32) Q
set_option maxHeartbeats 4000000 in
set_option maxRecDepth 100000 in
theorem c_X2_cellsLeftOf (l : Launch) (D : va_G) (cI cZ cW : ClassId)  (p0 : Int32) (Q : Int32 → Prop) (hf : wp_X2_cellsLeftOf p0 Q) : Met l yX2_cellsLeftOf (wsA yX2_cellsLeftOf cX2_cellsLeftOf 3 (some .int)) ({ frames := 0, cells := 0, slots := 0, locals := 0 }) (PR D cI cZ cW [.int p0] ([] : va_W)) (vp_Si Q) 0 0 (fun _ => False) := by
  refine Met.ofW (cc := cX2_cellsLeftOf) (maxL := 3) (ret := (some .int)) (by decide) rfl ?_
  intro p e s m args below meth c s₁ B hml hv
  obtain ⟨rfl, hP, hK⟩ := hv
  have hx := B.exec
  have hb := B.bytes
  have hr := B.returns
  have hts := atoms_spec (ws := (wsA yX2_cellsLeftOf cX2_cellsLeftOf 3 (some .int))) B.pre
  have ht : ∀ w ∈ lw_g, w.before _ s = true := fun w h => hts w (List.mem_cons_of_mem _ h)
  have hown : s.vm.findClass RX2 = some m.cls := findClass_of_methodNamed B.named
  have hlocks := B.notSynchronized
  have hl := lv_entry ([.int p0]) (n := 3) (Nat.le_of_ble_eq_true rfl)
  rw [lg_entry_eq]
  generalize (lg_sl ([.int p0]) ++ List.replicate (3 - (lg_sl ([.int p0])).length) Slot.unset).toArray = ls at hl ⊢
  have hl : lv_has ls 3 [(0, .int p0)] := hl
  unfold wp_X2_cellsLeftOf at hf
  have k_4 : ∀ (x0 : Int32) (x1 : Int32) (x2 : Int32) (ls : Array Slot), B_X2_cellsLeftOf_4  x0 x1 x2 Q → lv_has ls 3 [(0, .int x0), (1, .int x1), (2, .int x2)] → W p l e (headSpec (wsA yX2_cellsLeftOf cX2_cellsLeftOf 3 (some .int)) ({ frames := 0, cells := 0, slots := 0, locals := 0 })).room s m (#[.int p0] : Array Value) below meth c s.heap [] 0 0 (MQ below (vp_Si Q) (#[.int p0] : Array Value) s 0 0 (fun _ => False)) (F0 m 4 ls []) := by
    intro x0 x1 x2 ls hf hl
    unfold B_X2_cellsLeftOf_4 at hf
    obtain ⟨I_4, ⟨n0_4, hI0_4⟩, hst_4⟩ := hf
    have main_4 : ∀ (n : Nat) (x0 : Int32) (x1 : Int32) (x2 : Int32) (ls : Array Slot), I_4 n (x0, x1, x2) → lv_has ls 3 [(0, .int x0), (1, .int x1), (2, .int x2)] → W p l e (headSpec (wsA yX2_cellsLeftOf cX2_cellsLeftOf 3 (some .int)) ({ frames := 0, cells := 0, slots := 0, locals := 0 })).room s m (#[.int p0] : Array Value) below meth c s.heap [] 0 0 (MQ below (vp_Si Q) (#[.int p0] : Array Value) s 0 0 (fun _ => False)) (F0 m 4 ls []) := by
      intro n
      induction n using Nat.strongRecOn with
      | _ n_4 ih_4 =>
      intro x0 x1 x2 ls hI hl
      have hf : LB_X2_cellsLeftOf_4 (fun z => ∃ k, k < n_4 ∧ I_4 k z)  x0 x1 x2 Q := hst_4 n_4 (x0, x1, x2) hI
      have hG_4 : ∀ (x0 : Int32) (x1 : Int32) (x2 : Int32) (ls : Array Slot), (∃ k, k < n_4 ∧ I_4 k (x0, x1, x2)) → lv_has ls 3 [(0, .int x0), (1, .int x1), (2, .int x2)] → W p l e (headSpec (wsA yX2_cellsLeftOf cX2_cellsLeftOf 3 (some .int)) ({ frames := 0, cells := 0, slots := 0, locals := 0 })).room s m (#[.int p0] : Array Value) below meth c s.heap [] 0 0 (MQ below (vp_Si Q) (#[.int p0] : Array Value) s 0 0 (fun _ => False)) (F0 m 4 ls []) := by
        rintro x0 x1 x2 ls ⟨k, hk, hI⟩ hl
        exact ih_4 k hk x0 x1 x2 ls hI hl
      unfold LB_X2_cellsLeftOf_4 at hf
      have k_21 : ∀ (x0 : Int32) (x1 : Int32) (x2 : Int32) (ls : Array Slot), B_X2_cellsLeftOf_21 (fun z => ∃ k, k < n_4 ∧ I_4 k z)  x0 x1 x2 Q → lv_has ls 3 [(0, .int x0), (1, .int x1), (2, .int x2)] → W p l e (headSpec (wsA yX2_cellsLeftOf cX2_cellsLeftOf 3 (some .int)) ({ frames := 0, cells := 0, slots := 0, locals := 0 })).room s m (#[.int p0] : Array Value) below meth c s.heap [] 0 0 (MQ below (vp_Si Q) (#[.int p0] : Array Value) s 0 0 (fun _ => False)) (F0 m 21 ls []) := by
        intro x0 x1 x2 ls hf hl
        unfold B_X2_cellsLeftOf_21 at hf
        obtain ⟨x2_1, ex2_1⟩ : ∃ y : Int32, y = x2 + (1 : Int32) := ⟨_, rfl⟩
        have hf := hf x2_1 ex2_1
        refine lv_iinc (v := x2_1) (lv' := [(2, .int x2_1), (0, .int x0), (1, .int x1)]) hx hb dX2_cellsLeftOf_21 hl (k := 2) rfl (by rw [ex2_1]; rfl) (by decide) rfl (fun ls hl => ?_)
        refine lv_goto (tgt := 4) hx hb dX2_cellsLeftOf_24 (by decide) ?_
        exact hG_4 x0 x1 x2_1 ls hf (lv_sub hl [1, 2, 0] rfl)
      refine lv_iload_n hx hb dX2_cellsLeftOf_4 rfl (lv_at hl 2 rfl) ?_
      refine lv_iconst (v := (5 : Int32)) hx hb dX2_cellsLeftOf_5 (by decide) ?_
      refine lv_icmp_ge (tgt := 27) hx hb dX2_cellsLeftOf_6 (by decide) (fun c_2 => ?_) (fun c_2 => ?_)
      · have hf := hf.1 c_2
        refine lv_iload_n hx hb dX2_cellsLeftOf_27 rfl (lv_at hl 1 rfl) ?_
        exact W.iret (v := x1) hx hb hr (fun t ht hW => ⟨x1, rfl, hf, ht⟩) (fun q h => absurd h List.not_mem_nil) dX2_cellsLeftOf_28
      · have hf := hf.2 c_2
        refine lv_iload_n hx hb dX2_cellsLeftOf_9 rfl (lv_at hl 2 rfl) ?_
        refine lv_iload_n hx hb dX2_cellsLeftOf_10 rfl (lv_at hl 0 rfl) ?_
        refine lv_icmp_ge (tgt := 21) hx hb dX2_cellsLeftOf_11 (by decide) (fun c_3 => ?_) (fun c_3 => ?_)
        · have hf := hf.1 c_3
          exact k_21 x0 x1 x2 ls hf (lv_sub hl [0, 1, 2] rfl)
        · have hf := hf.2 c_3
          refine lv_iload_n hx hb dX2_cellsLeftOf_14 rfl (lv_at hl 1 rfl) ?_
          refine lv_ldc (v := (33825 : Int32)) hx hb hown (ht _ tw_382) dX2_cellsLeftOf_15 ?_
          refine lv_iload_n hx hb dX2_cellsLeftOf_17 rfl (lv_at hl 2 rfl) ?_
          refine lv_ishl hx hb dX2_cellsLeftOf_18 ?_
          refine lv_ior hx hb dX2_cellsLeftOf_19 ?_
          refine lv_topi (fun x1_4 ex1_4 => ?_)
          have hf := hf x1_4 ex1_4
          refine lv_istore_n (lv' := [(1, .int x1_4), (0, .int x0), (2, .int x2)]) hx hb dX2_cellsLeftOf_20 rfl hl (by decide) rfl (fun ls hl => ?_)
          exact k_21 x0 x1_4 x2 ls hf (lv_sub hl [1, 0, 2] rfl)
    exact main_4 n0_4 x0 x1 x2 ls hI0_4 hl
  refine lv_iconst (v := (0 : Int32)) hx hb dX2_cellsLeftOf_0 (by decide) ?_
  refine lv_istore_n (lv' := [(1, .int (0 : Int32)), (0, .int p0)]) hx hb dX2_cellsLeftOf_1 rfl hl (by decide) rfl (fun ls hl => ?_)
  refine lv_iconst (v := (0 : Int32)) hx hb dX2_cellsLeftOf_2 (by decide) ?_
  refine lv_istore_n (lv' := [(2, .int (0 : Int32)), (1, .int (0 : Int32)), (0, .int p0)]) hx hb dX2_cellsLeftOf_3 rfl hl (by decide) rfl (fun ls hl => ?_)
  exact k_4 p0 (0 : Int32) (0 : Int32) ls hf (lv_sub hl [2, 1, 0] rfl)
def wp_X2_leastOf (p0 : Int32) (Q : Int32 → Prop) : Prop := Q (p0 &&& (-p0))
set_option maxHeartbeats 4000000 in
set_option maxRecDepth 100000 in
theorem c_X2_leastOf (l : Launch) (D : va_G) (cI cZ cW : ClassId)  (p0 : Int32) (Q : Int32 → Prop) (hf : wp_X2_leastOf p0 Q) : Met l yX2_leastOf (wsA yX2_leastOf cX2_leastOf 1 (some .int)) ({ frames := 0, cells := 0, slots := 0, locals := 0 }) (PR D cI cZ cW [.int p0] ([] : va_W)) (vp_Si Q) 0 0 (fun _ => False) := by
  refine Met.ofW (cc := cX2_leastOf) (maxL := 1) (ret := (some .int)) (by decide) rfl ?_
  intro p e s m args below meth c s₁ B hml hv
  obtain ⟨rfl, hP, hK⟩ := hv
  have hx := B.exec
  have hb := B.bytes
  have hr := B.returns
  have hts := atoms_spec (ws := (wsA yX2_leastOf cX2_leastOf 1 (some .int))) B.pre
  have ht : ∀ w ∈ lw_g, w.before _ s = true := fun w h => hts w (List.mem_cons_of_mem _ h)
  have hown : s.vm.findClass RX2 = some m.cls := findClass_of_methodNamed B.named
  have hlocks := B.notSynchronized
  have hl := lv_entry ([.int p0]) (n := 1) (Nat.le_of_ble_eq_true rfl)
  rw [lg_entry_eq]
  generalize (lg_sl ([.int p0]) ++ List.replicate (1 - (lg_sl ([.int p0])).length) Slot.unset).toArray = ls at hl ⊢
  have hl : lv_has ls 1 [(0, .int p0)] := hl
  unfold wp_X2_leastOf at hf
  refine lv_iload_n hx hb dX2_leastOf_0 rfl (lv_at hl 0 rfl) ?_
  refine lv_iload_n hx hb dX2_leastOf_1 rfl (lv_at hl 0 rfl) ?_
  refine lv_ineg hx hb dX2_leastOf_2 ?_
  refine lv_iand hx hb dX2_leastOf_3 ?_
  exact W.iret (v := (p0 &&& (-p0))) hx hb hr (fun t ht hW => ⟨(p0 &&& (-p0)), rfl, hf, ht⟩) (fun q h => absurd h List.not_mem_nil) dX2_leastOf_4
def wp_X2_beside (p0 : Int32) (Q : Int32 → Prop) : Prop := ∀ x1_1 : Int32, x1_1 = ((p0 <<< ((5 : Int32) &&& 31)) ||| (p0.toUInt32 >>> ((5 : Int32).toUInt32 &&& Int32.toUInt32 31)).toInt32) → ∀ x2_2 : Int32, x2_2 = ((p0 &&& (-541201 : Int32)) <<< ((1 : Int32) &&& 31)) → ∀ x3_3 : Int32, x3_3 = ((p0 &&& (-33826 : Int32)).toUInt32 >>> ((1 : Int32).toUInt32 &&& Int32.toUInt32 31)).toInt32 → Q (((x1_1 ||| x2_2) ||| x3_3) &&& (1048575 : Int32))
set_option maxHeartbeats 4000000 in
set_option maxRecDepth 100000 in
theorem c_X2_beside (l : Launch) (D : va_G) (cI cZ cW : ClassId)  (p0 : Int32) (Q : Int32 → Prop) (hf : wp_X2_beside p0 Q) : Met l yX2_beside (wsA yX2_beside cX2_beside 4 (some .int)) ({ frames := 0, cells := 0, slots := 0, locals := 0 }) (PR D cI cZ cW [.int p0] ([] : va_W)) (vp_Si Q) 0 0 (fun _ => False) := by
  refine Met.ofW (cc := cX2_beside) (maxL := 4) (ret := (some .int)) (by decide) rfl ?_
  intro p e s m args below meth c s₁ B hml hv
  obtain ⟨rfl, hP, hK⟩ := hv
  have hx := B.exec
  have hb := B.bytes
  have hr := B.returns
  have hts := atoms_spec (ws := (wsA yX2_beside cX2_beside 4 (some .int))) B.pre
  have ht : ∀ w ∈ lw_g, w.before _ s = true := fun w h => hts w (List.mem_cons_of_mem _ h)
  have hown : s.vm.findClass RX2 = some m.cls := findClass_of_methodNamed B.named
  have hlocks := B.notSynchronized
  have hl := lv_entry ([.int p0]) (n := 4) (Nat.le_of_ble_eq_true rfl)
  rw [lg_entry_eq]
  generalize (lg_sl ([.int p0]) ++ List.replicate (4 - (lg_sl ([.int p0])).length) Slot.unset).toArray = ls at hl ⊢
  have hl : lv_has ls 4 [(0, .int p0)] := hl
  unfold wp_X2_beside at hf
  refine lv_iload_n hx hb dX2_beside_0 rfl (lv_at hl 0 rfl) ?_
  refine lv_iconst (v := (5 : Int32)) hx hb dX2_beside_1 (by decide) ?_
  refine lv_ishl hx hb dX2_beside_2 ?_
  refine lv_iload_n hx hb dX2_beside_3 rfl (lv_at hl 0 rfl) ?_
  refine lv_iconst (v := (5 : Int32)) hx hb dX2_beside_4 (by decide) ?_
  refine lv_iushr (v := (p0.toUInt32 >>> ((5 : Int32).toUInt32 &&& Int32.toUInt32 31)).toInt32) hx hb dX2_beside_5 rfl ?_
  refine lv_ior hx hb dX2_beside_6 ?_
  refine lv_topi (fun x1_1 ex1_1 => ?_)
  have hf := hf x1_1 ex1_1
  refine lv_istore_n (lv' := [(1, .int x1_1), (0, .int p0)]) hx hb dX2_beside_7 rfl hl (by decide) rfl (fun ls hl => ?_)
  refine lv_iload_n hx hb dX2_beside_8 rfl (lv_at hl 1 rfl) ?_
  refine lv_ldc (v := (-541201 : Int32)) hx hb hown (ht _ tw_386) dX2_beside_9 ?_
  refine lv_iand hx hb dX2_beside_11 ?_
  refine lv_iconst (v := (1 : Int32)) hx hb dX2_beside_12 (by decide) ?_
  refine lv_ishl hx hb dX2_beside_13 ?_
  refine lv_topi (fun x2_2 ex2_2 => ?_)
  have hf := hf x2_2 ex2_2
  refine lv_istore_n (lv' := [(2, .int x2_2), (1, .int x1_1), (0, .int p0)]) hx hb dX2_beside_14 rfl hl (by decide) rfl (fun ls hl => ?_)
  refine lv_iload_n hx hb dX2_beside_15 rfl (lv_at hl 2 rfl) ?_
  refine lv_ldc (v := (-33826 : Int32)) hx hb hown (ht _ tw_387) dX2_beside_16 ?_
  refine lv_iand hx hb dX2_beside_18 ?_
  refine lv_iconst (v := (1 : Int32)) hx hb dX2_beside_19 (by decide) ?_
  refine lv_iushr (v := ((p0 &&& (-33826 : Int32)).toUInt32 >>> ((1 : Int32).toUInt32 &&& Int32.toUInt32 31)).toInt32) hx hb dX2_beside_20 rfl ?_
  refine lv_topi (fun x3_3 ex3_3 => ?_)
  have hf := hf x3_3 ex3_3
  refine lv_istore_n (lv' := [(3, .int x3_3), (2, .int x2_2), (1, .int x1_1), (0, .int p0)]) hx hb dX2_beside_21 rfl hl (by decide) rfl (fun ls hl => ?_)
  refine lv_iload_n hx hb dX2_beside_22 rfl (lv_at hl 2 rfl) ?_
  refine lv_iload_n hx hb dX2_beside_23 rfl (lv_at hl 1 rfl) ?_
  refine lv_ior hx hb dX2_beside_24 ?_
  refine lv_iload_n hx hb dX2_beside_25 rfl (lv_at hl 0 rfl) ?_
  refine lv_ior hx hb dX2_beside_26 ?_
  refine lv_ldc (v := (1048575 : Int32)) hx hb hown (ht _ tw_388) dX2_beside_27 ?_
  refine lv_iand hx hb dX2_beside_29 ?_
  exact W.iret (v := (((x1_1 ||| x2_2) ||| x3_3) &&& (1048575 : Int32))) hx hb hr (fun t ht hW => ⟨(((x1_1 ||| x2_2) ||| x3_3) &&& (1048575 : Int32)), rfl, hf, ht⟩) (fun q h => absurd h List.not_mem_nil) dX2_beside_30
def B_X2_columnsOf_24 (G4 : (Int32 × Int32 × Int32) → Prop)  (x0 : Int32) (x1 : Int32) (x2 : Int32) (Q : Int32 → Prop) : Prop := ∀ x2_1 : Int32, x2_1 = x2 + (1 : Int32) → G4 (x0, x1, x2_1)
def LB_X2_columnsOf_4 (G4 : (Int32 × Int32 × Int32) → Prop)  (x0 : Int32) (x1 : Int32) (x2 : Int32) (Q : Int32 → Prop) : Prop := (((5 : Int32) ≤ x2 → Q x1) ∧ (¬ (5 : Int32) ≤ x2 → ∀ x3_3 : Int32, x3_3 = ((33825 : Int32) <<< (x2 &&& 31)) → (((x0 &&& x3_3) = 0 → B_X2_columnsOf_24 G4  x0 x1 x2 Q) ∧ (¬ (x0 &&& x3_3) = 0 → ∀ x1_5 : Int32, x1_5 = (x1 ||| x3_3) → B_X2_columnsOf_24 G4  x0 x1_5 x2 Q))))
def B_X2_columnsOf_4  (x0 : Int32) (x1 : Int32) (x2 : Int32) (Q : Int32 → Prop) : Prop := LOOP (fun (G4 : (Int32 × Int32 × Int32) → Prop) z => LB_X2_columnsOf_4 G4  z.1 z.2.1 z.2.2 Q) (x0, x1, x2)
def wp_X2_columnsOf (p0 : Int32) (Q : Int32 → Prop) : Prop := B_X2_columnsOf_4  p0 (0 : Int32) (0 : Int32) Q
set_option maxHeartbeats 4000000 in
set_option maxRecDepth 100000 in
theorem c_X2_columnsOf (l : Launch) (D : va_G) (cI cZ cW : ClassId)  (p0 : Int32) (Q : Int32 → Prop) (hf : wp_X2_columnsOf p0 Q) : Met l yX2_columnsOf (wsA yX2_columnsOf cX2_columnsOf 4 (some .int)) ({ frames := 0, cells := 0, slots := 0, locals := 0 }) (PR D cI cZ cW [.int p0] ([] : va_W)) (vp_Si Q) 0 0 (fun _ => False) := by
  refine Met.ofW (cc := cX2_columnsOf) (maxL := 4) (ret := (some .int)) (by decide) rfl ?_
  intro p e s m args below meth c s₁ B hml hv
  obtain ⟨rfl, hP, hK⟩ := hv
  have hx := B.exec
  have hb := B.bytes
  have hr := B.returns
  have hts := atoms_spec (ws := (wsA yX2_columnsOf cX2_columnsOf 4 (some .int))) B.pre
  have ht : ∀ w ∈ lw_g, w.before _ s = true := fun w h => hts w (List.mem_cons_of_mem _ h)
  have hown : s.vm.findClass RX2 = some m.cls := findClass_of_methodNamed B.named
  have hlocks := B.notSynchronized
  have hl := lv_entry ([.int p0]) (n := 4) (Nat.le_of_ble_eq_true rfl)
  rw [lg_entry_eq]
  generalize (lg_sl ([.int p0]) ++ List.replicate (4 - (lg_sl ([.int p0])).length) Slot.unset).toArray = ls at hl ⊢
  have hl : lv_has ls 4 [(0, .int p0)] := hl
  unfold wp_X2_columnsOf at hf
  have k_4 : ∀ (x0 : Int32) (x1 : Int32) (x2 : Int32) (ls : Array Slot), B_X2_columnsOf_4  x0 x1 x2 Q → lv_has ls 4 [(0, .int x0), (1, .int x1), (2, .int x2)] → W p l e (headSpec (wsA yX2_columnsOf cX2_columnsOf 4 (some .int)) ({ frames := 0, cells := 0, slots := 0, locals := 0 })).room s m (#[.int p0] : Array Value) below meth c s.heap [] 0 0 (MQ below (vp_Si Q) (#[.int p0] : Array Value) s 0 0 (fun _ => False)) (F0 m 4 ls []) := by
    intro x0 x1 x2 ls hf hl
    unfold B_X2_columnsOf_4 at hf
    obtain ⟨I_4, ⟨n0_4, hI0_4⟩, hst_4⟩ := hf
    have main_4 : ∀ (n : Nat) (x0 : Int32) (x1 : Int32) (x2 : Int32) (ls : Array Slot), I_4 n (x0, x1, x2) → lv_has ls 4 [(0, .int x0), (1, .int x1), (2, .int x2)] → W p l e (headSpec (wsA yX2_columnsOf cX2_columnsOf 4 (some .int)) ({ frames := 0, cells := 0, slots := 0, locals := 0 })).room s m (#[.int p0] : Array Value) below meth c s.heap [] 0 0 (MQ below (vp_Si Q) (#[.int p0] : Array Value) s 0 0 (fun _ => False)) (F0 m 4 ls []) := by
      intro n
      induction n using Nat.strongRecOn with
      | _ n_4 ih_4 =>
      intro x0 x1 x2 ls hI hl
      have hf : LB_X2_columnsOf_4 (fun z => ∃ k, k < n_4 ∧ I_4 k z)  x0 x1 x2 Q := hst_4 n_4 (x0, x1, x2) hI
      have hG_4 : ∀ (x0 : Int32) (x1 : Int32) (x2 : Int32) (ls : Array Slot), (∃ k, k < n_4 ∧ I_4 k (x0, x1, x2)) → lv_has ls 4 [(0, .int x0), (1, .int x1), (2, .int x2)] → W p l e (headSpec (wsA yX2_columnsOf cX2_columnsOf 4 (some .int)) ({ frames := 0, cells := 0, slots := 0, locals := 0 })).room s m (#[.int p0] : Array Value) below meth c s.heap [] 0 0 (MQ below (vp_Si Q) (#[.int p0] : Array Value) s 0 0 (fun _ => False)) (F0 m 4 ls []) := by
        rintro x0 x1 x2 ls ⟨k, hk, hI⟩ hl
        exact ih_4 k hk x0 x1 x2 ls hI hl
      unfold LB_X2_columnsOf_4 at hf
      have k_24 : ∀ (x0 : Int32) (x1 : Int32) (x2 : Int32) (ls : Array Slot), B_X2_columnsOf_24 (fun z => ∃ k, k < n_4 ∧ I_4 k z)  x0 x1 x2 Q → lv_has ls 4 [(0, .int x0), (1, .int x1), (2, .int x2)] → W p l e (headSpec (wsA yX2_columnsOf cX2_columnsOf 4 (some .int)) ({ frames := 0, cells := 0, slots := 0, locals := 0 })).room s m (#[.int p0] : Array Value) below meth c s.heap [] 0 0 (MQ below (vp_Si Q) (#[.int p0] : Array Value) s 0 0 (fun _ => False)) (F0 m 24 ls []) := by
        intro x0 x1 x2 ls hf hl
        unfold B_X2_columnsOf_24 at hf
        obtain ⟨x2_1, ex2_1⟩ : ∃ y : Int32, y = x2 + (1 : Int32) := ⟨_, rfl⟩
        have hf := hf x2_1 ex2_1
        refine lv_iinc (v := x2_1) (lv' := [(2, .int x2_1), (0, .int x0), (1, .int x1)]) hx hb dX2_columnsOf_24 hl (k := 2) rfl (by rw [ex2_1]; rfl) (by decide) rfl (fun ls hl => ?_)
        refine lv_goto (tgt := 4) hx hb dX2_columnsOf_27 (by decide) ?_
        exact hG_4 x0 x1 x2_1 ls hf (lv_sub hl [1, 2, 0] rfl)
      refine lv_iload_n hx hb dX2_columnsOf_4 rfl (lv_at hl 2 rfl) ?_
      refine lv_iconst (v := (5 : Int32)) hx hb dX2_columnsOf_5 (by decide) ?_
      refine lv_icmp_ge (tgt := 30) hx hb dX2_columnsOf_6 (by decide) (fun c_2 => ?_) (fun c_2 => ?_)
      · have hf := hf.1 c_2
        refine lv_iload_n hx hb dX2_columnsOf_30 rfl (lv_at hl 1 rfl) ?_
        exact W.iret (v := x1) hx hb hr (fun t ht hW => ⟨x1, rfl, hf, ht⟩) (fun q h => absurd h List.not_mem_nil) dX2_columnsOf_31
      · have hf := hf.2 c_2
        refine lv_ldc (v := (33825 : Int32)) hx hb hown (ht _ tw_382) dX2_columnsOf_9 ?_
        refine lv_iload_n hx hb dX2_columnsOf_11 rfl (lv_at hl 2 rfl) ?_
        refine lv_ishl hx hb dX2_columnsOf_12 ?_
        refine lv_topi (fun x3_3 ex3_3 => ?_)
        have hf := hf x3_3 ex3_3
        refine lv_istore_n (lv' := [(3, .int x3_3), (0, .int x0), (1, .int x1), (2, .int x2)]) hx hb dX2_columnsOf_13 rfl hl (by decide) rfl (fun ls hl => ?_)
        refine lv_iload_n hx hb dX2_columnsOf_14 rfl (lv_at hl 1 rfl) ?_
        refine lv_iload_n hx hb dX2_columnsOf_15 rfl (lv_at hl 0 rfl) ?_
        refine lv_iand hx hb dX2_columnsOf_16 ?_
        refine lv_if_eq (tgt := 24) hx hb dX2_columnsOf_17 (by decide) (fun c_4 => ?_) (fun c_4 => ?_)
        · have hf := hf.1 c_4
          exact k_24 x0 x1 x2 ls hf (lv_sub hl [1, 2, 3] rfl)
        · have hf := hf.2 c_4
          refine lv_iload_n hx hb dX2_columnsOf_20 rfl (lv_at hl 2 rfl) ?_
          refine lv_iload_n hx hb dX2_columnsOf_21 rfl (lv_at hl 0 rfl) ?_
          refine lv_ior hx hb dX2_columnsOf_22 ?_
          refine lv_topi (fun x1_5 ex1_5 => ?_)
          have hf := hf x1_5 ex1_5
          refine lv_istore_n (lv' := [(1, .int x1_5), (3, .int x3_3), (0, .int x0), (2, .int x2)]) hx hb dX2_columnsOf_23 rfl hl (by decide) rfl (fun ls hl => ?_)
          exact k_24 x0 x1_5 x2 ls hf (lv_sub hl [2, 0, 3] rfl)
    exact main_4 n0_4 x0 x1 x2 ls hI0_4 hl
  refine lv_iconst (v := (0 : Int32)) hx hb dX2_columnsOf_0 (by decide) ?_
  refine lv_istore_n (lv' := [(1, .int (0 : Int32)), (0, .int p0)]) hx hb dX2_columnsOf_1 rfl hl (by decide) rfl (fun ls hl => ?_)
  refine lv_iconst (v := (0 : Int32)) hx hb dX2_columnsOf_2 (by decide) ?_
  refine lv_istore_n (lv' := [(2, .int (0 : Int32)), (1, .int (0 : Int32)), (0, .int p0)]) hx hb dX2_columnsOf_3 rfl hl (by decide) rfl (fun ls hl => ?_)
  exact k_4 p0 (0 : Int32) (0 : Int32) ls hf (lv_sub hl [2, 1, 0] rfl)
def LB_X2_flood_4 (G4 : (Int32 × Int32 × Int32) → Prop)  (x1 : Int32) (x2 : Int32) (x3 : Int32) (Q : Int32 → Prop) : Prop := (((20 : Int32) ≤ x3 → Q x2) ∧ (¬ (20 : Int32) ≤ x3 → wp_X2_beside x2 (fun r_2 => ∀ x4_3 : Int32, x4_3 = (x2 ||| (r_2 &&& x1)) → ((¬ x4_3 = x2 → ∀ x3_5 : Int32, x3_5 = x3 + (1 : Int32) → G4 (x1, x4_3, x3_5)) ∧ (x4_3 = x2 → Q x2)))))
def B_X2_flood_4  (x1 : Int32) (x2 : Int32) (x3 : Int32) (Q : Int32 → Prop) : Prop := LOOP (fun (G4 : (Int32 × Int32 × Int32) → Prop) z => LB_X2_flood_4 G4  z.1 z.2.1 z.2.2 Q) (x1, x2, x3)
def wp_X2_flood (p0 : Int32) (p1 : Int32) (Q : Int32 → Prop) : Prop := B_X2_flood_4  p1 p0 (0 : Int32) Q
set_option maxHeartbeats 4000000 in
set_option maxRecDepth 100000 in
theorem c_X2_flood (l : Launch) (D : va_G) (cI cZ cW : ClassId)  (p0 : Int32) (p1 : Int32) (Q : Int32 → Prop) (hf : wp_X2_flood p0 p1 Q) : Met l yX2_flood (wsA yX2_flood cX2_flood 5 (some .int)) ({ frames := 1, cells := 0, slots := 0, locals := 23 }) (PR D cI cZ cW [.int p0, .int p1] ([] : va_W)) (vp_Si Q) 0 0 (fun _ => False) := by
  refine Met.ofW (cc := cX2_flood) (maxL := 5) (ret := (some .int)) (by decide) rfl ?_
  intro p e s m args below meth c s₁ B hml hv
  obtain ⟨rfl, hP, hK⟩ := hv
  have hx := B.exec
  have hb := B.bytes
  have hr := B.returns
  have hts := atoms_spec (ws := (wsA yX2_flood cX2_flood 5 (some .int))) B.pre
  have ht : ∀ w ∈ lw_g, w.before _ s = true := fun w h => hts w (List.mem_cons_of_mem _ h)
  have hown : s.vm.findClass RX2 = some m.cls := findClass_of_methodNamed B.named
  have hlocks := B.notSynchronized
  have hl := lv_entry ([.int p0, .int p1]) (n := 5) (Nat.le_of_ble_eq_true rfl)
  rw [lg_entry_eq]
  generalize (lg_sl ([.int p0, .int p1]) ++ List.replicate (5 - (lg_sl ([.int p0, .int p1])).length) Slot.unset).toArray = ls at hl ⊢
  have hl : lv_has ls 5 [(0, .int p0), (1, .int p1)] := hl
  unfold wp_X2_flood at hf
  have k_4 : ∀ (x1 : Int32) (x2 : Int32) (x3 : Int32) (ls : Array Slot), B_X2_flood_4  x1 x2 x3 Q → lv_has ls 5 [(1, .int x1), (2, .int x2), (3, .int x3)] → W p l e (headSpec (wsA yX2_flood cX2_flood 5 (some .int)) ({ frames := 1, cells := 0, slots := 0, locals := 23 })).room s m (#[.int p0, .int p1] : Array Value) below meth c s.heap [] 0 0 (MQ below (vp_Si Q) (#[.int p0, .int p1] : Array Value) s 0 0 (fun _ => False)) (F0 m 4 ls []) := by
    intro x1 x2 x3 ls hf hl
    unfold B_X2_flood_4 at hf
    obtain ⟨I_4, ⟨n0_4, hI0_4⟩, hst_4⟩ := hf
    have main_4 : ∀ (n : Nat) (x1 : Int32) (x2 : Int32) (x3 : Int32) (ls : Array Slot), I_4 n (x1, x2, x3) → lv_has ls 5 [(1, .int x1), (2, .int x2), (3, .int x3)] → W p l e (headSpec (wsA yX2_flood cX2_flood 5 (some .int)) ({ frames := 1, cells := 0, slots := 0, locals := 23 })).room s m (#[.int p0, .int p1] : Array Value) below meth c s.heap [] 0 0 (MQ below (vp_Si Q) (#[.int p0, .int p1] : Array Value) s 0 0 (fun _ => False)) (F0 m 4 ls []) := by
      intro n
      induction n using Nat.strongRecOn with
      | _ n_4 ih_4 =>
      intro x1 x2 x3 ls hI hl
      have hf : LB_X2_flood_4 (fun z => ∃ k, k < n_4 ∧ I_4 k z)  x1 x2 x3 Q := hst_4 n_4 (x1, x2, x3) hI
      have hG_4 : ∀ (x1 : Int32) (x2 : Int32) (x3 : Int32) (ls : Array Slot), (∃ k, k < n_4 ∧ I_4 k (x1, x2, x3)) → lv_has ls 5 [(1, .int x1), (2, .int x2), (3, .int x3)] → W p l e (headSpec (wsA yX2_flood cX2_flood 5 (some .int)) ({ frames := 1, cells := 0, slots := 0, locals := 23 })).room s m (#[.int p0, .int p1] : Array Value) below meth c s.heap [] 0 0 (MQ below (vp_Si Q) (#[.int p0, .int p1] : Array Value) s 0 0 (fun _ => False)) (F0 m 4 ls []) := by
        rintro x1 x2 x3 ls ⟨k, hk, hI⟩ hl
        exact ih_4 k hk x1 x2 x3 ls hI hl
      unfold LB_X2_flood_4 at hf
      refine lv_iload_n hx hb dX2_flood_4 rfl (lv_at hl 2 rfl) ?_
      refine lv_bipush (v := (20 : Int32)) hx hb dX2_flood_5 (by decide) ?_
      refine lv_icmp_ge (tgt := 37) hx hb dX2_flood_7 (by decide) (fun c_1 => ?_) (fun c_1 => ?_)
      · have hf := hf.1 c_1
        refine lv_iload_n hx hb dX2_flood_37 rfl (lv_at hl 1 rfl) ?_
        exact W.iret (v := x2) hx hb hr (fun t ht hW => ⟨x2, rfl, hf, ht⟩) (fun q h => absurd h List.not_mem_nil) dX2_flood_38
      · have hf := hf.2 c_1
        refine lv_iload_n hx hb dX2_flood_10 rfl (lv_at hl 1 rfl) ?_
        refine lv_iload_n hx hb dX2_flood_11 rfl (lv_at hl 1 rfl) ?_
        have hPc : va_P D classes ([] : va_W) s.heap := hP
        refine vp_callSi (W.runS (As := [.int x2]) (rest := [.int x2]) ⟨hx, hb, hml, hown, hts⟩ (c_X2_beside l D cI cZ cW  x2 _ hf) ⟨callB_of 1 hts (gA tw_385) rfl rfl rfl (ht _ tw_9) (ht _ tw_485) hd_X2_beside ⟨Nat.le_of_ble_eq_true rfl, Nat.le_of_ble_eq_true rfl⟩, ht _ tw_384⟩ ⟨PR_blind, fun U hU hW => PR_mk hPc hK hU hW⟩ rfl rfl hl.1 rfl (lv_room (Nat.le_of_ble_eq_true rfl)) dX2_flood_12 ⟨Nat.zero_le _, Nat.zero_le _⟩) (fun r_2 hf => ?_)
        refine lv_iload_n hx hb dX2_flood_15 rfl (lv_at hl 0 rfl) ?_
        refine lv_iand hx hb dX2_flood_16 ?_
        refine lv_ior hx hb dX2_flood_17 ?_
        refine lv_topi (fun x4_3 ex4_3 => ?_)
        have hf := hf x4_3 ex4_3
        refine lv_istore (lv' := [(4, .int x4_3), (1, .int x1), (2, .int x2), (3, .int x3)]) hx hb dX2_flood_18 hl (by decide) rfl (fun ls hl => ?_)
        refine lv_iload hx hb dX2_flood_20 (lv_at hl 0 rfl) ?_
        refine lv_iload_n hx hb dX2_flood_22 rfl (lv_at hl 2 rfl) ?_
        refine lv_icmp_ne (tgt := 28) hx hb dX2_flood_23 (by decide) (fun c_4 => ?_) (fun c_4 => ?_)
        · have hf := hf.1 c_4
          refine lv_iload hx hb dX2_flood_28 (lv_at hl 0 rfl) ?_
          refine lv_istore_n (lv' := [(2, .int x4_3), (4, .int x4_3), (1, .int x1), (3, .int x3)]) hx hb dX2_flood_30 rfl hl (by decide) rfl (fun ls hl => ?_)
          obtain ⟨x3_5, ex3_5⟩ : ∃ y : Int32, y = x3 + (1 : Int32) := ⟨_, rfl⟩
          have hf := hf x3_5 ex3_5
          refine lv_iinc (v := x3_5) (lv' := [(3, .int x3_5), (2, .int x4_3), (4, .int x4_3), (1, .int x1)]) hx hb dX2_flood_31 hl (k := 3) rfl (by rw [ex3_5]; rfl) (by decide) rfl (fun ls hl => ?_)
          refine lv_goto (tgt := 4) hx hb dX2_flood_34 (by decide) ?_
          exact hG_4 x1 x4_3 x3_5 ls hf (lv_sub hl [3, 1, 0] rfl)
        · have hf := hf.2 c_4
          refine lv_iload_n hx hb dX2_flood_26 rfl (lv_at hl 2 rfl) ?_
          exact W.iret (v := x2) hx hb hr (fun t ht hW => ⟨x2, rfl, hf, ht⟩) (fun q h => absurd h List.not_mem_nil) dX2_flood_27
    exact main_4 n0_4 x1 x2 x3 ls hI0_4 hl
  refine lv_iload_n hx hb dX2_flood_0 rfl (lv_at hl 0 rfl) ?_
  refine lv_istore_n (lv' := [(2, .int p0), (0, .int p0), (1, .int p1)]) hx hb dX2_flood_1 rfl hl (by decide) rfl (fun ls hl => ?_)
  refine lv_iconst (v := (0 : Int32)) hx hb dX2_flood_2 (by decide) ?_
  refine lv_istore_n (lv' := [(3, .int (0 : Int32)), (2, .int p0), (0, .int p0), (1, .int p1)]) hx hb dX2_flood_3 rfl hl (by decide) rfl (fun ls hl => ?_)
  exact k_4 p1 p0 (0 : Int32) ls hf (lv_sub hl [3, 1, 0] rfl)
def wp_J6_bitCount_0f7a4 (p0 : Int32) (Q : Int32 → Prop) : Prop := ∀ x0_1 : Int32, x0_1 = (p0 - ((p0.toUInt32 >>> ((1 : Int32).toUInt32 &&& Int32.toUInt32 31)).toInt32 &&& (1431655765 : Int32))) → ∀ x0_2 : Int32, x0_2 = ((x0_1 &&& (858993459 : Int32)) + ((x0_1.toUInt32 >>> ((2 : Int32).toUInt32 &&& Int32.toUInt32 31)).toInt32 &&& (858993459 : Int32))) → ∀ x0_3 : Int32, x0_3 = ((x0_2 + (x0_2.toUInt32 >>> ((4 : Int32).toUInt32 &&& Int32.toUInt32 31)).toInt32) &&& (252645135 : Int32)) → ∀ x0_4 : Int32, x0_4 = (x0_3 + (x0_3.toUInt32 >>> ((8 : Int32).toUInt32 &&& Int32.toUInt32 31)).toInt32) → ∀ x0_5 : Int32, x0_5 = (x0_4 + (x0_4.toUInt32 >>> ((16 : Int32).toUInt32 &&& Int32.toUInt32 31)).toInt32) → Q (x0_5 &&& (63 : Int32))
set_option maxHeartbeats 4000000 in
set_option maxRecDepth 100000 in
theorem c_J6_bitCount_0f7a4 (l : Launch) (D : va_G) (cI cZ cW : ClassId)  (p0 : Int32) (Q : Int32 → Prop) (hf : wp_J6_bitCount_0f7a4 p0 Q) : Met l yJ6_bitCount_0f7a4 (wsA yJ6_bitCount_0f7a4 cJ6_bitCount_0f7a4 1 (some .int)) ({ frames := 0, cells := 0, slots := 0, locals := 0 }) (PR D cI cZ cW [.int p0] ([] : va_W)) (vp_Si Q) 0 0 (fun _ => False) := by
  refine Met.ofW (cc := cJ6_bitCount_0f7a4) (maxL := 1) (ret := (some .int)) (by decide) rfl ?_
  intro p e s m args below meth c s₁ B hml hv
  obtain ⟨rfl, hP, hK⟩ := hv
  have hx := B.exec
  have hb := B.bytes
  have hr := B.returns
  have hts := atoms_spec (ws := (wsA yJ6_bitCount_0f7a4 cJ6_bitCount_0f7a4 1 (some .int))) B.pre
  have ht : ∀ w ∈ lw_g, w.before _ s = true := fun w h => hts w (List.mem_cons_of_mem _ h)
  have hown : s.vm.findClass RJ6 = some m.cls := findClass_of_methodNamed B.named
  have hlocks := B.notSynchronized
  have hl := lv_entry ([.int p0]) (n := 1) (Nat.le_of_ble_eq_true rfl)
  rw [lg_entry_eq]
  generalize (lg_sl ([.int p0]) ++ List.replicate (1 - (lg_sl ([.int p0])).length) Slot.unset).toArray = ls at hl ⊢
  have hl : lv_has ls 1 [(0, .int p0)] := hl
  unfold wp_J6_bitCount_0f7a4 at hf
  refine lv_iload_n hx hb dJ6_bitCount_0f7a4_0 rfl (lv_at hl 0 rfl) ?_
  refine lv_iload_n hx hb dJ6_bitCount_0f7a4_1 rfl (lv_at hl 0 rfl) ?_
  refine lv_iconst (v := (1 : Int32)) hx hb dJ6_bitCount_0f7a4_2 (by decide) ?_
  refine lv_iushr (v := (p0.toUInt32 >>> ((1 : Int32).toUInt32 &&& Int32.toUInt32 31)).toInt32) hx hb dJ6_bitCount_0f7a4_3 rfl ?_
  refine lv_ldcw (v := (1431655765 : Int32)) hx hb hown (ht _ tw_306) dJ6_bitCount_0f7a4_4 ?_
  refine lv_iand hx hb dJ6_bitCount_0f7a4_7 ?_
  refine lv_isub hx hb dJ6_bitCount_0f7a4_8 ?_
  refine lv_topi (fun x0_1 ex0_1 => ?_)
  have hf := hf x0_1 ex0_1
  refine lv_istore_n (lv' := [(0, .int x0_1)]) hx hb dJ6_bitCount_0f7a4_9 rfl hl (by decide) rfl (fun ls hl => ?_)
  refine lv_iload_n hx hb dJ6_bitCount_0f7a4_10 rfl (lv_at hl 0 rfl) ?_
  refine lv_ldcw (v := (858993459 : Int32)) hx hb hown (ht _ tw_307) dJ6_bitCount_0f7a4_11 ?_
  refine lv_iand hx hb dJ6_bitCount_0f7a4_14 ?_
  refine lv_iload_n hx hb dJ6_bitCount_0f7a4_15 rfl (lv_at hl 0 rfl) ?_
  refine lv_iconst (v := (2 : Int32)) hx hb dJ6_bitCount_0f7a4_16 (by decide) ?_
  refine lv_iushr (v := (x0_1.toUInt32 >>> ((2 : Int32).toUInt32 &&& Int32.toUInt32 31)).toInt32) hx hb dJ6_bitCount_0f7a4_17 rfl ?_
  refine lv_ldcw (v := (858993459 : Int32)) hx hb hown (ht _ tw_307) dJ6_bitCount_0f7a4_18 ?_
  refine lv_iand hx hb dJ6_bitCount_0f7a4_21 ?_
  refine lv_iadd hx hb dJ6_bitCount_0f7a4_22 ?_
  refine lv_topi (fun x0_2 ex0_2 => ?_)
  have hf := hf x0_2 ex0_2
  refine lv_istore_n (lv' := [(0, .int x0_2)]) hx hb dJ6_bitCount_0f7a4_23 rfl hl (by decide) rfl (fun ls hl => ?_)
  refine lv_iload_n hx hb dJ6_bitCount_0f7a4_24 rfl (lv_at hl 0 rfl) ?_
  refine lv_iload_n hx hb dJ6_bitCount_0f7a4_25 rfl (lv_at hl 0 rfl) ?_
  refine lv_iconst (v := (4 : Int32)) hx hb dJ6_bitCount_0f7a4_26 (by decide) ?_
  refine lv_iushr (v := (x0_2.toUInt32 >>> ((4 : Int32).toUInt32 &&& Int32.toUInt32 31)).toInt32) hx hb dJ6_bitCount_0f7a4_27 rfl ?_
  refine lv_iadd hx hb dJ6_bitCount_0f7a4_28 ?_
  refine lv_ldcw (v := (252645135 : Int32)) hx hb hown (ht _ tw_308) dJ6_bitCount_0f7a4_29 ?_
  refine lv_iand hx hb dJ6_bitCount_0f7a4_32 ?_
  refine lv_topi (fun x0_3 ex0_3 => ?_)
  have hf := hf x0_3 ex0_3
  refine lv_istore_n (lv' := [(0, .int x0_3)]) hx hb dJ6_bitCount_0f7a4_33 rfl hl (by decide) rfl (fun ls hl => ?_)
  refine lv_iload_n hx hb dJ6_bitCount_0f7a4_34 rfl (lv_at hl 0 rfl) ?_
  refine lv_iload_n hx hb dJ6_bitCount_0f7a4_35 rfl (lv_at hl 0 rfl) ?_
  refine lv_bipush (v := (8 : Int32)) hx hb dJ6_bitCount_0f7a4_36 (by decide) ?_
  refine lv_iushr (v := (x0_3.toUInt32 >>> ((8 : Int32).toUInt32 &&& Int32.toUInt32 31)).toInt32) hx hb dJ6_bitCount_0f7a4_38 rfl ?_
  refine lv_iadd hx hb dJ6_bitCount_0f7a4_39 ?_
  refine lv_topi (fun x0_4 ex0_4 => ?_)
  have hf := hf x0_4 ex0_4
  refine lv_istore_n (lv' := [(0, .int x0_4)]) hx hb dJ6_bitCount_0f7a4_40 rfl hl (by decide) rfl (fun ls hl => ?_)
  refine lv_iload_n hx hb dJ6_bitCount_0f7a4_41 rfl (lv_at hl 0 rfl) ?_
  refine lv_iload_n hx hb dJ6_bitCount_0f7a4_42 rfl (lv_at hl 0 rfl) ?_
  refine lv_bipush (v := (16 : Int32)) hx hb dJ6_bitCount_0f7a4_43 (by decide) ?_
  refine lv_iushr (v := (x0_4.toUInt32 >>> ((16 : Int32).toUInt32 &&& Int32.toUInt32 31)).toInt32) hx hb dJ6_bitCount_0f7a4_45 rfl ?_
  refine lv_iadd hx hb dJ6_bitCount_0f7a4_46 ?_
  refine lv_topi (fun x0_5 ex0_5 => ?_)
  have hf := hf x0_5 ex0_5
  refine lv_istore_n (lv' := [(0, .int x0_5)]) hx hb dJ6_bitCount_0f7a4_47 rfl hl (by decide) rfl (fun ls hl => ?_)
  refine lv_iload_n hx hb dJ6_bitCount_0f7a4_48 rfl (lv_at hl 0 rfl) ?_
  refine lv_bipush (v := (63 : Int32)) hx hb dJ6_bitCount_0f7a4_49 (by decide) ?_
  refine lv_iand hx hb dJ6_bitCount_0f7a4_51 ?_
  exact W.iret (v := (x0_5 &&& (63 : Int32))) hx hb hr (fun t ht hW => ⟨(x0_5 &&& (63 : Int32)), rfl, hf, ht⟩) (fun q h => absurd h List.not_mem_nil) dJ6_bitCount_0f7a4_52
def wp_J9_max_7cf53 (p0 : Int32) (p1 : Int32) (Q : Int32 → Prop) : Prop := ((p0 < p1 → Q p1) ∧ (¬ p0 < p1 → Q p0))
set_option maxHeartbeats 4000000 in
set_option maxRecDepth 100000 in
theorem c_J9_max_7cf53 (l : Launch) (D : va_G) (cI cZ cW : ClassId)  (p0 : Int32) (p1 : Int32) (Q : Int32 → Prop) (hf : wp_J9_max_7cf53 p0 p1 Q) : Met l yJ9_max_7cf53 (wsA yJ9_max_7cf53 cJ9_max_7cf53 2 (some .int)) ({ frames := 0, cells := 0, slots := 0, locals := 0 }) (PR D cI cZ cW [.int p0, .int p1] ([] : va_W)) (vp_Si Q) 0 0 (fun _ => False) := by
  refine Met.ofW (cc := cJ9_max_7cf53) (maxL := 2) (ret := (some .int)) (by decide) rfl ?_
  intro p e s m args below meth c s₁ B hml hv
  obtain ⟨rfl, hP, hK⟩ := hv
  have hx := B.exec
  have hb := B.bytes
  have hr := B.returns
  have hts := atoms_spec (ws := (wsA yJ9_max_7cf53 cJ9_max_7cf53 2 (some .int))) B.pre
  have ht : ∀ w ∈ lw_g, w.before _ s = true := fun w h => hts w (List.mem_cons_of_mem _ h)
  have hown : s.vm.findClass RJ9 = some m.cls := findClass_of_methodNamed B.named
  have hlocks := B.notSynchronized
  have hl := lv_entry ([.int p0, .int p1]) (n := 2) (Nat.le_of_ble_eq_true rfl)
  rw [lg_entry_eq]
  generalize (lg_sl ([.int p0, .int p1]) ++ List.replicate (2 - (lg_sl ([.int p0, .int p1])).length) Slot.unset).toArray = ls at hl ⊢
  have hl : lv_has ls 2 [(0, .int p0), (1, .int p1)] := hl
  unfold wp_J9_max_7cf53 at hf
  refine lv_iload_n hx hb dJ9_max_7cf53_0 rfl (lv_at hl 0 rfl) ?_
  refine lv_iload_n hx hb dJ9_max_7cf53_1 rfl (lv_at hl 1 rfl) ?_
  refine lv_icmp_lt (tgt := 9) hx hb dJ9_max_7cf53_2 (by decide) (fun c_1 => ?_) (fun c_1 => ?_)
  · have hf := hf.1 c_1
    refine lv_iload_n hx hb dJ9_max_7cf53_9 rfl (lv_at hl 1 rfl) ?_
    exact W.iret (v := p1) hx hb hr (fun t ht hW => ⟨p1, rfl, hf, ht⟩) (fun q h => absurd h List.not_mem_nil) dJ9_max_7cf53_10
  · have hf := hf.2 c_1
    refine lv_iload_n hx hb dJ9_max_7cf53_5 rfl (lv_at hl 0 rfl) ?_
    refine lv_goto (tgt := 10) hx hb dJ9_max_7cf53_6 (by decide) ?_
    exact W.iret (v := p0) hx hb hr (fun t ht hW => ⟨p0, rfl, hf, ht⟩) (fun q h => absurd h List.not_mem_nil) dJ9_max_7cf53_10
def LB_X2_largestPatch_6 (G6 : (Int32 × Int32 × Int32) → Prop)  (x1 : Int32) (x2 : Int32) (x3 : Int32) (Q : Int32 → Prop) : Prop := (((20 : Int32) ≤ x3 → Q x2) ∧ (¬ (20 : Int32) ≤ x3 → ((x1 = 0 → Q x2) ∧ (¬ x1 = 0 → wp_X2_leastOf x1 (fun r_3 => wp_X2_flood r_3 x1 (fun r_4 => wp_J6_bitCount_0f7a4 r_4 (fun r_5 => wp_J9_max_7cf53 x2 r_5 (fun r_6 => ∀ x1_7 : Int32, x1_7 = (x1 &&& (r_4 ^^^ (-1 : Int32))) → ∀ x3_8 : Int32, x3_8 = x3 + (1 : Int32) → G6 (x1_7, r_6, x3_8)))))))))
def B_X2_largestPatch_6  (x1 : Int32) (x2 : Int32) (x3 : Int32) (Q : Int32 → Prop) : Prop := LOOP (fun (G6 : (Int32 × Int32 × Int32) → Prop) z => LB_X2_largestPatch_6 G6  z.1 z.2.1 z.2.2 Q) (x1, x2, x3)
def wp_X2_largestPatch (p0 : Int32) (Q : Int32 → Prop) : Prop := B_X2_largestPatch_6  p0 (0 : Int32) (0 : Int32) Q
set_option maxHeartbeats 4000000 in
set_option maxRecDepth 100000 in
theorem c_X2_largestPatch (l : Launch) (D : va_G) (cI cZ cW : ClassId)  (p0 : Int32) (Q : Int32 → Prop) (hf : wp_X2_largestPatch p0 Q) : Met l yX2_largestPatch (wsA yX2_largestPatch cX2_largestPatch 5 (some .int)) ({ frames := 2, cells := 0, slots := 0, locals := 47 }) (PR D cI cZ cW [.int p0] ([] : va_W)) (vp_Si Q) 0 0 (fun _ => False) := by
  refine Met.ofW (cc := cX2_largestPatch) (maxL := 5) (ret := (some .int)) (by decide) rfl ?_
  intro p e s m args below meth c s₁ B hml hv
  obtain ⟨rfl, hP, hK⟩ := hv
  have hx := B.exec
  have hb := B.bytes
  have hr := B.returns
  have hts := atoms_spec (ws := (wsA yX2_largestPatch cX2_largestPatch 5 (some .int))) B.pre
  have ht : ∀ w ∈ lw_g, w.before _ s = true := fun w h => hts w (List.mem_cons_of_mem _ h)
  have hown : s.vm.findClass RX2 = some m.cls := findClass_of_methodNamed B.named
  have hlocks := B.notSynchronized
  have hl := lv_entry ([.int p0]) (n := 5) (Nat.le_of_ble_eq_true rfl)
  rw [lg_entry_eq]
  generalize (lg_sl ([.int p0]) ++ List.replicate (5 - (lg_sl ([.int p0])).length) Slot.unset).toArray = ls at hl ⊢
  have hl : lv_has ls 5 [(0, .int p0)] := hl
  unfold wp_X2_largestPatch at hf
  have k_6 : ∀ (x1 : Int32) (x2 : Int32) (x3 : Int32) (ls : Array Slot), B_X2_largestPatch_6  x1 x2 x3 Q → lv_has ls 5 [(1, .int x1), (2, .int x2), (3, .int x3)] → W p l e (headSpec (wsA yX2_largestPatch cX2_largestPatch 5 (some .int)) ({ frames := 2, cells := 0, slots := 0, locals := 47 })).room s m (#[.int p0] : Array Value) below meth c s.heap [] 0 0 (MQ below (vp_Si Q) (#[.int p0] : Array Value) s 0 0 (fun _ => False)) (F0 m 6 ls []) := by
    intro x1 x2 x3 ls hf hl
    unfold B_X2_largestPatch_6 at hf
    obtain ⟨I_6, ⟨n0_6, hI0_6⟩, hst_6⟩ := hf
    have main_6 : ∀ (n : Nat) (x1 : Int32) (x2 : Int32) (x3 : Int32) (ls : Array Slot), I_6 n (x1, x2, x3) → lv_has ls 5 [(1, .int x1), (2, .int x2), (3, .int x3)] → W p l e (headSpec (wsA yX2_largestPatch cX2_largestPatch 5 (some .int)) ({ frames := 2, cells := 0, slots := 0, locals := 47 })).room s m (#[.int p0] : Array Value) below meth c s.heap [] 0 0 (MQ below (vp_Si Q) (#[.int p0] : Array Value) s 0 0 (fun _ => False)) (F0 m 6 ls []) := by
      intro n
      induction n using Nat.strongRecOn with
      | _ n_6 ih_6 =>
      intro x1 x2 x3 ls hI hl
      have hf : LB_X2_largestPatch_6 (fun z => ∃ k, k < n_6 ∧ I_6 k z)  x1 x2 x3 Q := hst_6 n_6 (x1, x2, x3) hI
      have hG_6 : ∀ (x1 : Int32) (x2 : Int32) (x3 : Int32) (ls : Array Slot), (∃ k, k < n_6 ∧ I_6 k (x1, x2, x3)) → lv_has ls 5 [(1, .int x1), (2, .int x2), (3, .int x3)] → W p l e (headSpec (wsA yX2_largestPatch cX2_largestPatch 5 (some .int)) ({ frames := 2, cells := 0, slots := 0, locals := 47 })).room s m (#[.int p0] : Array Value) below meth c s.heap [] 0 0 (MQ below (vp_Si Q) (#[.int p0] : Array Value) s 0 0 (fun _ => False)) (F0 m 6 ls []) := by
        rintro x1 x2 x3 ls ⟨k, hk, hI⟩ hl
        exact ih_6 k hk x1 x2 x3 ls hI hl
      unfold LB_X2_largestPatch_6 at hf
      refine lv_iload_n hx hb dX2_largestPatch_6 rfl (lv_at hl 2 rfl) ?_
      refine lv_bipush (v := (20 : Int32)) hx hb dX2_largestPatch_7 (by decide) ?_
      refine lv_icmp_ge (tgt := 49) hx hb dX2_largestPatch_9 (by decide) (fun c_1 => ?_) (fun c_1 => ?_)
      · have hf := hf.1 c_1
        refine lv_iload_n hx hb dX2_largestPatch_49 rfl (lv_at hl 1 rfl) ?_
        exact W.iret (v := x2) hx hb hr (fun t ht hW => ⟨x2, rfl, hf, ht⟩) (fun q h => absurd h List.not_mem_nil) dX2_largestPatch_50
      · have hf := hf.2 c_1
        refine lv_iload_n hx hb dX2_largestPatch_12 rfl (lv_at hl 0 rfl) ?_
        refine lv_if_eq (tgt := 49) hx hb dX2_largestPatch_13 (by decide) (fun c_2 => ?_) (fun c_2 => ?_)
        · have hf := hf.1 c_2
          refine lv_iload_n hx hb dX2_largestPatch_49 rfl (lv_at hl 1 rfl) ?_
          exact W.iret (v := x2) hx hb hr (fun t ht hW => ⟨x2, rfl, hf, ht⟩) (fun q h => absurd h List.not_mem_nil) dX2_largestPatch_50
        · have hf := hf.2 c_2
          refine lv_iload_n hx hb dX2_largestPatch_16 rfl (lv_at hl 0 rfl) ?_
          have hPc : va_P D classes ([] : va_W) s.heap := hP
          refine vp_callSi (W.runS (As := [.int x1]) (rest := []) ⟨hx, hb, hml, hown, hts⟩ (c_X2_leastOf l D cI cZ cW  x1 _ hf) ⟨callB_of 1 hts (gA tw_395) rfl rfl rfl (ht _ tw_9) (ht _ tw_581) hd_X2_leastOf ⟨Nat.le_of_ble_eq_true rfl, Nat.le_of_ble_eq_true rfl⟩, ht _ tw_394⟩ ⟨PR_blind, fun U hU hW => PR_mk hPc hK hU hW⟩ rfl rfl hl.1 rfl (lv_room (Nat.le_of_ble_eq_true rfl)) dX2_largestPatch_17 ⟨Nat.zero_le _, Nat.zero_le _⟩) (fun r_3 hf => ?_)
          refine lv_iload_n hx hb dX2_largestPatch_20 rfl (lv_at hl 0 rfl) ?_
          have hPc : va_P D classes ([] : va_W) s.heap := hP
          refine vp_callSi (W.runS (As := [.int r_3, .int x1]) (rest := []) ⟨hx, hb, hml, hown, hts⟩ (c_X2_flood l D cI cZ cW  r_3 x1 _ hf) ⟨callB_of 2 hts (gA tw_496) rfl rfl rfl (ht _ tw_9) (ht _ tw_494) hd_X2_flood ⟨Nat.le_of_ble_eq_true rfl, Nat.le_of_ble_eq_true rfl⟩, ht _ tw_495⟩ ⟨PR_blind, fun U hU hW => PR_mk hPc hK hU hW⟩ rfl rfl hl.1 rfl (lv_room (Nat.le_of_ble_eq_true rfl)) dX2_largestPatch_21 ⟨Nat.zero_le _, Nat.zero_le _⟩) (fun r_4 hf => ?_)
          refine lv_istore (lv' := [(4, .int r_4), (1, .int x1), (2, .int x2), (3, .int x3)]) hx hb dX2_largestPatch_24 hl (by decide) rfl (fun ls hl => ?_)
          refine lv_iload_n hx hb dX2_largestPatch_26 rfl (lv_at hl 2 rfl) ?_
          refine lv_iload hx hb dX2_largestPatch_27 (lv_at hl 0 rfl) ?_
          have hPc : va_P D classes ([] : va_W) s.heap := hP
          refine vp_callSi (W.runS (As := [.int r_4]) (rest := [.int x2]) ⟨hx, hb, hml, hown, hts⟩ (c_J6_bitCount_0f7a4 l D cI cZ cW  r_4 _ hf) ⟨callB_of 1 hts (gA tw_305) rfl rfl rfl (ht _ tw_10) (ht _ tw_582) hd_J6_bitCount_0f7a4 ⟨Nat.le_of_ble_eq_true rfl, Nat.le_of_ble_eq_true rfl⟩, ht _ tw_304⟩ ⟨PR_blind, fun U hU hW => PR_mk hPc hK hU hW⟩ rfl rfl hl.1 rfl (lv_room (Nat.le_of_ble_eq_true rfl)) dX2_largestPatch_29 ⟨Nat.zero_le _, Nat.zero_le _⟩) (fun r_5 hf => ?_)
          have hPc : va_P D classes ([] : va_W) s.heap := hP
          refine vp_callSi (W.runS (As := [.int x2, .int r_5]) (rest := []) ⟨hx, hb, hml, hown, hts⟩ (c_J9_max_7cf53 l D cI cZ cW  x2 r_5 _ hf) ⟨callB_of 2 hts (gA tw_585) rfl rfl rfl (ht _ tw_12) (ht _ tw_583) hd_J9_max_7cf53 ⟨Nat.le_of_ble_eq_true rfl, Nat.le_of_ble_eq_true rfl⟩, ht _ tw_584⟩ ⟨PR_blind, fun U hU hW => PR_mk hPc hK hU hW⟩ rfl rfl hl.1 rfl (lv_room (Nat.le_of_ble_eq_true rfl)) dX2_largestPatch_32 ⟨Nat.zero_le _, Nat.zero_le _⟩) (fun r_6 hf => ?_)
          refine lv_istore_n (lv' := [(2, .int r_6), (4, .int r_4), (1, .int x1), (3, .int x3)]) hx hb dX2_largestPatch_35 rfl hl (by decide) rfl (fun ls hl => ?_)
          refine lv_iload_n hx hb dX2_largestPatch_36 rfl (lv_at hl 2 rfl) ?_
          refine lv_iload hx hb dX2_largestPatch_37 (lv_at hl 1 rfl) ?_
          refine lv_iconst (v := (-1 : Int32)) hx hb dX2_largestPatch_39 (by decide) ?_
          refine lv_ixor hx hb dX2_largestPatch_40 ?_
          refine lv_iand hx hb dX2_largestPatch_41 ?_
          refine lv_topi (fun x1_7 ex1_7 => ?_)
          have hf := hf x1_7 ex1_7
          refine lv_istore_n (lv' := [(1, .int x1_7), (2, .int r_6), (4, .int r_4), (3, .int x3)]) hx hb dX2_largestPatch_42 rfl hl (by decide) rfl (fun ls hl => ?_)
          obtain ⟨x3_8, ex3_8⟩ : ∃ y : Int32, y = x3 + (1 : Int32) := ⟨_, rfl⟩
          have hf := hf x3_8 ex3_8
          refine lv_iinc (v := x3_8) (lv' := [(3, .int x3_8), (1, .int x1_7), (2, .int r_6), (4, .int r_4)]) hx hb dX2_largestPatch_43 hl (k := 3) rfl (by rw [ex3_8]; rfl) (by decide) rfl (fun ls hl => ?_)
          refine lv_goto (tgt := 6) hx hb dX2_largestPatch_46 (by decide) ?_
          exact hG_6 x1_7 r_6 x3_8 ls hf (lv_sub hl [1, 2, 0] rfl)
    exact main_6 n0_6 x1 x2 x3 ls hI0_6 hl
  refine lv_iload_n hx hb dX2_largestPatch_0 rfl (lv_at hl 0 rfl) ?_
  refine lv_istore_n (lv' := [(1, .int p0), (0, .int p0)]) hx hb dX2_largestPatch_1 rfl hl (by decide) rfl (fun ls hl => ?_)
  refine lv_iconst (v := (0 : Int32)) hx hb dX2_largestPatch_2 (by decide) ?_
  refine lv_istore_n (lv' := [(2, .int (0 : Int32)), (1, .int p0), (0, .int p0)]) hx hb dX2_largestPatch_3 rfl hl (by decide) rfl (fun ls hl => ?_)
  refine lv_iconst (v := (0 : Int32)) hx hb dX2_largestPatch_4 (by decide) ?_
  refine lv_istore_n (lv' := [(3, .int (0 : Int32)), (2, .int (0 : Int32)), (1, .int p0), (0, .int p0)]) hx hb dX2_largestPatch_5 rfl hl (by decide) rfl (fun ls hl => ?_)
  exact k_6 p0 (0 : Int32) (0 : Int32) ls hf (lv_sub hl [2, 1, 0] rfl)
def LB_X2_steps_23 (G23 : (Int32 × Int32 × Int32 × Int32) → Prop)  (x2 : Int32) (x3 : Int32) (x4 : Int32) (x5 : Int32) (Q : Int32 → Prop) : Prop := (((20 : Int32) ≤ x5 → Q (-9 : Int32)) ∧ (¬ (20 : Int32) ≤ x5 → wp_X2_beside x4 (fun r_2 => ∀ x4_3 : Int32, x4_3 = (x4 ||| (r_2 &&& x2)) → (((x4_3 &&& x3) = 0 → ∀ x5_5 : Int32, x5_5 = x5 + (1 : Int32) → G23 (x2, x3, x4_3, x5_5)) ∧ (¬ (x4_3 &&& x3) = 0 → Q x5)))))
def B_X2_steps_23  (x2 : Int32) (x3 : Int32) (x4 : Int32) (x5 : Int32) (Q : Int32 → Prop) : Prop := LOOP (fun (G23 : (Int32 × Int32 × Int32 × Int32) → Prop) z => LB_X2_steps_23 G23  z.1 z.2.1 z.2.2.1 z.2.2.2 Q) (x2, x3, x4, x5)
def wp_X2_steps (p0 : Int32) (p1 : Int32) (p2 : Int32) (Q : Int32 → Prop) : Prop := ((¬ p0 = p1 → wp_X2_bitOf p1 (fun r_7 => wp_X2_bitOf p0 (fun r_8 => ∀ x4_9 : Int32, x4_9 = (r_8 &&& p2) → B_X2_steps_23  p2 r_7 x4_9 (1 : Int32) Q))) ∧ (p0 = p1 → Q (0 : Int32)))
set_option maxHeartbeats 4000000 in
set_option maxRecDepth 100000 in
theorem c_X2_steps (l : Launch) (D : va_G) (cI cZ cW : ClassId)  (p0 : Int32) (p1 : Int32) (p2 : Int32) (Q : Int32 → Prop) (hf : wp_X2_steps p0 p1 p2 Q) : Met l yX2_steps (wsA yX2_steps cX2_steps 6 (some .int)) ({ frames := 2, cells := 0, slots := 0, locals := 40 }) (PR D cI cZ cW [.int p0, .int p1, .int p2] ([] : va_W)) (vp_Si Q) 0 0 (fun _ => False) := by
  refine Met.ofW (cc := cX2_steps) (maxL := 6) (ret := (some .int)) (by decide) rfl ?_
  intro p e s m args below meth c s₁ B hml hv
  obtain ⟨rfl, hP, hK⟩ := hv
  have hx := B.exec
  have hb := B.bytes
  have hr := B.returns
  have hts := atoms_spec (ws := (wsA yX2_steps cX2_steps 6 (some .int))) B.pre
  have ht : ∀ w ∈ lw_g, w.before _ s = true := fun w h => hts w (List.mem_cons_of_mem _ h)
  have hown : s.vm.findClass RX2 = some m.cls := findClass_of_methodNamed B.named
  have hlocks := B.notSynchronized
  have hl := lv_entry ([.int p0, .int p1, .int p2]) (n := 6) (Nat.le_of_ble_eq_true rfl)
  rw [lg_entry_eq]
  generalize (lg_sl ([.int p0, .int p1, .int p2]) ++ List.replicate (6 - (lg_sl ([.int p0, .int p1, .int p2])).length) Slot.unset).toArray = ls at hl ⊢
  have hl : lv_has ls 6 [(0, .int p0), (1, .int p1), (2, .int p2)] := hl
  unfold wp_X2_steps at hf
  have k_23 : ∀ (x2 : Int32) (x3 : Int32) (x4 : Int32) (x5 : Int32) (ls : Array Slot), B_X2_steps_23  x2 x3 x4 x5 Q → lv_has ls 6 [(2, .int x2), (3, .int x3), (4, .int x4), (5, .int x5)] → W p l e (headSpec (wsA yX2_steps cX2_steps 6 (some .int)) ({ frames := 2, cells := 0, slots := 0, locals := 40 })).room s m (#[.int p0, .int p1, .int p2] : Array Value) below meth c s.heap [] 0 0 (MQ below (vp_Si Q) (#[.int p0, .int p1, .int p2] : Array Value) s 0 0 (fun _ => False)) (F0 m 23 ls []) := by
    intro x2 x3 x4 x5 ls hf hl
    unfold B_X2_steps_23 at hf
    obtain ⟨I_23, ⟨n0_23, hI0_23⟩, hst_23⟩ := hf
    have main_23 : ∀ (n : Nat) (x2 : Int32) (x3 : Int32) (x4 : Int32) (x5 : Int32) (ls : Array Slot), I_23 n (x2, x3, x4, x5) → lv_has ls 6 [(2, .int x2), (3, .int x3), (4, .int x4), (5, .int x5)] → W p l e (headSpec (wsA yX2_steps cX2_steps 6 (some .int)) ({ frames := 2, cells := 0, slots := 0, locals := 40 })).room s m (#[.int p0, .int p1, .int p2] : Array Value) below meth c s.heap [] 0 0 (MQ below (vp_Si Q) (#[.int p0, .int p1, .int p2] : Array Value) s 0 0 (fun _ => False)) (F0 m 23 ls []) := by
      intro n
      induction n using Nat.strongRecOn with
      | _ n_23 ih_23 =>
      intro x2 x3 x4 x5 ls hI hl
      have hf : LB_X2_steps_23 (fun z => ∃ k, k < n_23 ∧ I_23 k z)  x2 x3 x4 x5 Q := hst_23 n_23 (x2, x3, x4, x5) hI
      have hG_23 : ∀ (x2 : Int32) (x3 : Int32) (x4 : Int32) (x5 : Int32) (ls : Array Slot), (∃ k, k < n_23 ∧ I_23 k (x2, x3, x4, x5)) → lv_has ls 6 [(2, .int x2), (3, .int x3), (4, .int x4), (5, .int x5)] → W p l e (headSpec (wsA yX2_steps cX2_steps 6 (some .int)) ({ frames := 2, cells := 0, slots := 0, locals := 40 })).room s m (#[.int p0, .int p1, .int p2] : Array Value) below meth c s.heap [] 0 0 (MQ below (vp_Si Q) (#[.int p0, .int p1, .int p2] : Array Value) s 0 0 (fun _ => False)) (F0 m 23 ls []) := by
        rintro x2 x3 x4 x5 ls ⟨k, hk, hI⟩ hl
        exact ih_23 k hk x2 x3 x4 x5 ls hI hl
      unfold LB_X2_steps_23 at hf
      refine lv_iload hx hb dX2_steps_23 (lv_at hl 3 rfl) ?_
      refine lv_bipush (v := (20 : Int32)) hx hb dX2_steps_25 (by decide) ?_
      refine lv_icmp_ge (tgt := 58) hx hb dX2_steps_27 (by decide) (fun c_1 => ?_) (fun c_1 => ?_)
      · have hf := hf.1 c_1
        refine lv_bipush (v := (-9 : Int32)) hx hb dX2_steps_58 (by decide) ?_
        exact W.iret (v := (-9 : Int32)) hx hb hr (fun t ht hW => ⟨(-9 : Int32), rfl, hf, ht⟩) (fun q h => absurd h List.not_mem_nil) dX2_steps_60
      · have hf := hf.2 c_1
        refine lv_iload hx hb dX2_steps_30 (lv_at hl 2 rfl) ?_
        refine lv_iload hx hb dX2_steps_32 (lv_at hl 2 rfl) ?_
        have hPc : va_P D classes ([] : va_W) s.heap := hP
        refine vp_callSi (W.runS (As := [.int x4]) (rest := [.int x4]) ⟨hx, hb, hml, hown, hts⟩ (c_X2_beside l D cI cZ cW  x4 _ hf) ⟨callB_of 1 hts (gA tw_385) rfl rfl rfl (ht _ tw_9) (ht _ tw_485) hd_X2_beside ⟨Nat.le_of_ble_eq_true rfl, Nat.le_of_ble_eq_true rfl⟩, ht _ tw_384⟩ ⟨PR_blind, fun U hU hW => PR_mk hPc hK hU hW⟩ rfl rfl hl.1 rfl (lv_room (Nat.le_of_ble_eq_true rfl)) dX2_steps_34 ⟨Nat.zero_le _, Nat.zero_le _⟩) (fun r_2 hf => ?_)
        refine lv_iload_n hx hb dX2_steps_37 rfl (lv_at hl 0 rfl) ?_
        refine lv_iand hx hb dX2_steps_38 ?_
        refine lv_ior hx hb dX2_steps_39 ?_
        refine lv_topi (fun x4_3 ex4_3 => ?_)
        have hf := hf x4_3 ex4_3
        refine lv_istore (lv' := [(4, .int x4_3), (2, .int x2), (3, .int x3), (5, .int x5)]) hx hb dX2_steps_40 hl (by decide) rfl (fun ls hl => ?_)
        refine lv_iload hx hb dX2_steps_42 (lv_at hl 0 rfl) ?_
        refine lv_iload_n hx hb dX2_steps_44 rfl (lv_at hl 2 rfl) ?_
        refine lv_iand hx hb dX2_steps_45 ?_
        refine lv_if_eq (tgt := 52) hx hb dX2_steps_46 (by decide) (fun c_4 => ?_) (fun c_4 => ?_)
        · have hf := hf.1 c_4
          obtain ⟨x5_5, ex5_5⟩ : ∃ y : Int32, y = x5 + (1 : Int32) := ⟨_, rfl⟩
          have hf := hf x5_5 ex5_5
          refine lv_iinc (v := x5_5) (lv' := [(5, .int x5_5), (4, .int x4_3), (2, .int x2), (3, .int x3)]) hx hb dX2_steps_52 hl (k := 3) rfl (by rw [ex5_5]; rfl) (by decide) rfl (fun ls hl => ?_)
          refine lv_goto (tgt := 23) hx hb dX2_steps_55 (by decide) ?_
          exact hG_23 x2 x3 x4_3 x5_5 ls hf (lv_sub hl [2, 3, 1, 0] rfl)
        · have hf := hf.2 c_4
          refine lv_iload hx hb dX2_steps_49 (lv_at hl 3 rfl) ?_
          exact W.iret (v := x5) hx hb hr (fun t ht hW => ⟨x5, rfl, hf, ht⟩) (fun q h => absurd h List.not_mem_nil) dX2_steps_51
    exact main_23 n0_23 x2 x3 x4 x5 ls hI0_23 hl
  refine lv_iload_n hx hb dX2_steps_0 rfl (lv_at hl 0 rfl) ?_
  refine lv_iload_n hx hb dX2_steps_1 rfl (lv_at hl 1 rfl) ?_
  refine lv_icmp_ne (tgt := 7) hx hb dX2_steps_2 (by decide) (fun c_6 => ?_) (fun c_6 => ?_)
  · have hf := hf.1 c_6
    refine lv_iload_n hx hb dX2_steps_7 rfl (lv_at hl 1 rfl) ?_
    have hPc : va_P D classes ([] : va_W) s.heap := hP
    refine vp_callSi (W.runS (As := [.int p1]) (rest := []) ⟨hx, hb, hml, hown, hts⟩ (c_X2_bitOf l D cI cZ cW  p1 _ hf) ⟨callB_of 1 hts (gA tw_248) rfl rfl rfl (ht _ tw_9) (ht _ tw_484) hd_X2_bitOf ⟨Nat.le_of_ble_eq_true rfl, Nat.le_of_ble_eq_true rfl⟩, ht _ tw_247⟩ ⟨PR_blind, fun U hU hW => PR_mk hPc hK hU hW⟩ rfl rfl hl.1 rfl (lv_room (Nat.le_of_ble_eq_true rfl)) dX2_steps_8 ⟨Nat.zero_le _, Nat.zero_le _⟩) (fun r_7 hf => ?_)
    refine lv_istore_n (lv' := [(3, .int r_7), (0, .int p0), (1, .int p1), (2, .int p2)]) hx hb dX2_steps_11 rfl hl (by decide) rfl (fun ls hl => ?_)
    refine lv_iload_n hx hb dX2_steps_12 rfl (lv_at hl 1 rfl) ?_
    have hPc : va_P D classes ([] : va_W) s.heap := hP
    refine vp_callSi (W.runS (As := [.int p0]) (rest := []) ⟨hx, hb, hml, hown, hts⟩ (c_X2_bitOf l D cI cZ cW  p0 _ hf) ⟨callB_of 1 hts (gA tw_248) rfl rfl rfl (ht _ tw_9) (ht _ tw_484) hd_X2_bitOf ⟨Nat.le_of_ble_eq_true rfl, Nat.le_of_ble_eq_true rfl⟩, ht _ tw_247⟩ ⟨PR_blind, fun U hU hW => PR_mk hPc hK hU hW⟩ rfl rfl hl.1 rfl (lv_room (Nat.le_of_ble_eq_true rfl)) dX2_steps_13 ⟨Nat.zero_le _, Nat.zero_le _⟩) (fun r_8 hf => ?_)
    refine lv_iload_n hx hb dX2_steps_16 rfl (lv_at hl 3 rfl) ?_
    refine lv_iand hx hb dX2_steps_17 ?_
    refine lv_topi (fun x4_9 ex4_9 => ?_)
    have hf := hf x4_9 ex4_9
    refine lv_istore (lv' := [(4, .int x4_9), (3, .int r_7), (0, .int p0), (1, .int p1), (2, .int p2)]) hx hb dX2_steps_18 hl (by decide) rfl (fun ls hl => ?_)
    refine lv_iconst (v := (1 : Int32)) hx hb dX2_steps_20 (by decide) ?_
    refine lv_istore (lv' := [(5, .int (1 : Int32)), (4, .int x4_9), (3, .int r_7), (0, .int p0), (1, .int p1), (2, .int p2)]) hx hb dX2_steps_21 hl (by decide) rfl (fun ls hl => ?_)
    exact k_23 p2 r_7 x4_9 (1 : Int32) ls hf (lv_sub hl [5, 2, 1, 0] rfl)
  · have hf := hf.2 c_6
    refine lv_iconst (v := (0 : Int32)) hx hb dX2_steps_5 (by decide) ?_
    exact W.iret (v := (0 : Int32)) hx hb hr (fun t ht hW => ⟨(0 : Int32), rfl, hf, ht⟩) (fun q h => absurd h List.not_mem_nil) dX2_steps_6
def LB_X2_fewestGnawed_24 (G24 : (Int32 × Int32 × Int32 × Int32 × Int32 × Int32) → Prop)  (x0 : Int32) (x2 : Int32) (x3 : Int32) (x4 : Int32) (x5 : Int32) (x6 : Int32) (Q : Int32 → Prop) : Prop := (((20 : Int32) < x6 → Q (-9 : Int32)) ∧ (¬ (20 : Int32) < x6 → wp_X2_flood x5 x2 (fun r_2 => (((r_2 &&& x4) = 0 → wp_X2_beside r_2 (fun r_4 => wp_X2_bitOf x0 (fun r_5 => ∀ x5_6 : Int32, x5_6 = (r_2 ||| ((r_4 ||| r_5) &&& x3)) → ∀ x6_7 : Int32, x6_7 = x6 + (1 : Int32) → G24 (x0, x2, x3, x4, x5_6, x6_7)))) ∧ (¬ (r_2 &&& x4) = 0 → Q x6)))))
def B_X2_fewestGnawed_24  (x0 : Int32) (x2 : Int32) (x3 : Int32) (x4 : Int32) (x5 : Int32) (x6 : Int32) (Q : Int32 → Prop) : Prop := LOOP (fun (G24 : (Int32 × Int32 × Int32 × Int32 × Int32 × Int32) → Prop) z => LB_X2_fewestGnawed_24 G24  z.1 z.2.1 z.2.2.1 z.2.2.2.1 z.2.2.2.2.1 z.2.2.2.2.2 Q) (x0, x2, x3, x4, x5, x6)
def wp_X2_fewestGnawed (p0 : Int32) (p1 : Int32) (p2 : Int32) (p3 : Int32) (Q : Int32 → Prop) : Prop := ((¬ p0 = p1 → wp_X2_bitOf p1 (fun r_9 => wp_X2_bitOf p0 (fun r_10 => ∀ x5_11 : Int32, x5_11 = (r_10 &&& p2) → B_X2_fewestGnawed_24  p0 p2 p3 r_9 x5_11 (0 : Int32) Q))) ∧ (p0 = p1 → Q (0 : Int32)))
set_option maxHeartbeats 4000000 in
set_option maxRecDepth 100000 in
theorem c_X2_fewestGnawed (l : Launch) (D : va_G) (cI cZ cW : ClassId)  (p0 : Int32) (p1 : Int32) (p2 : Int32) (p3 : Int32) (Q : Int32 → Prop) (hf : wp_X2_fewestGnawed p0 p1 p2 p3 Q) : Met l yX2_fewestGnawed (wsA yX2_fewestGnawed cX2_fewestGnawed 7 (some .int)) ({ frames := 2, cells := 0, slots := 0, locals := 47 }) (PR D cI cZ cW [.int p0, .int p1, .int p2, .int p3] ([] : va_W)) (vp_Si Q) 0 0 (fun _ => False) := by
  refine Met.ofW (cc := cX2_fewestGnawed) (maxL := 7) (ret := (some .int)) (by decide) rfl ?_
  intro p e s m args below meth c s₁ B hml hv
  obtain ⟨rfl, hP, hK⟩ := hv
  have hx := B.exec
  have hb := B.bytes
  have hr := B.returns
  have hts := atoms_spec (ws := (wsA yX2_fewestGnawed cX2_fewestGnawed 7 (some .int))) B.pre
  have ht : ∀ w ∈ lw_g, w.before _ s = true := fun w h => hts w (List.mem_cons_of_mem _ h)
  have hown : s.vm.findClass RX2 = some m.cls := findClass_of_methodNamed B.named
  have hlocks := B.notSynchronized
  have hl := lv_entry ([.int p0, .int p1, .int p2, .int p3]) (n := 7) (Nat.le_of_ble_eq_true rfl)
  rw [lg_entry_eq]
  generalize (lg_sl ([.int p0, .int p1, .int p2, .int p3]) ++ List.replicate (7 - (lg_sl ([.int p0, .int p1, .int p2, .int p3])).length) Slot.unset).toArray = ls at hl ⊢
  have hl : lv_has ls 7 [(0, .int p0), (1, .int p1), (2, .int p2), (3, .int p3)] := hl
  unfold wp_X2_fewestGnawed at hf
  have k_24 : ∀ (x0 : Int32) (x2 : Int32) (x3 : Int32) (x4 : Int32) (x5 : Int32) (x6 : Int32) (ls : Array Slot), B_X2_fewestGnawed_24  x0 x2 x3 x4 x5 x6 Q → lv_has ls 7 [(0, .int x0), (2, .int x2), (3, .int x3), (4, .int x4), (5, .int x5), (6, .int x6)] → W p l e (headSpec (wsA yX2_fewestGnawed cX2_fewestGnawed 7 (some .int)) ({ frames := 2, cells := 0, slots := 0, locals := 47 })).room s m (#[.int p0, .int p1, .int p2, .int p3] : Array Value) below meth c s.heap [] 0 0 (MQ below (vp_Si Q) (#[.int p0, .int p1, .int p2, .int p3] : Array Value) s 0 0 (fun _ => False)) (F0 m 24 ls []) := by
    intro x0 x2 x3 x4 x5 x6 ls hf hl
    unfold B_X2_fewestGnawed_24 at hf
    obtain ⟨I_24, ⟨n0_24, hI0_24⟩, hst_24⟩ := hf
    have main_24 : ∀ (n : Nat) (x0 : Int32) (x2 : Int32) (x3 : Int32) (x4 : Int32) (x5 : Int32) (x6 : Int32) (ls : Array Slot), I_24 n (x0, x2, x3, x4, x5, x6) → lv_has ls 7 [(0, .int x0), (2, .int x2), (3, .int x3), (4, .int x4), (5, .int x5), (6, .int x6)] → W p l e (headSpec (wsA yX2_fewestGnawed cX2_fewestGnawed 7 (some .int)) ({ frames := 2, cells := 0, slots := 0, locals := 47 })).room s m (#[.int p0, .int p1, .int p2, .int p3] : Array Value) below meth c s.heap [] 0 0 (MQ below (vp_Si Q) (#[.int p0, .int p1, .int p2, .int p3] : Array Value) s 0 0 (fun _ => False)) (F0 m 24 ls []) := by
      intro n
      induction n using Nat.strongRecOn with
      | _ n_24 ih_24 =>
      intro x0 x2 x3 x4 x5 x6 ls hI hl
      have hf : LB_X2_fewestGnawed_24 (fun z => ∃ k, k < n_24 ∧ I_24 k z)  x0 x2 x3 x4 x5 x6 Q := hst_24 n_24 (x0, x2, x3, x4, x5, x6) hI
      have hG_24 : ∀ (x0 : Int32) (x2 : Int32) (x3 : Int32) (x4 : Int32) (x5 : Int32) (x6 : Int32) (ls : Array Slot), (∃ k, k < n_24 ∧ I_24 k (x0, x2, x3, x4, x5, x6)) → lv_has ls 7 [(0, .int x0), (2, .int x2), (3, .int x3), (4, .int x4), (5, .int x5), (6, .int x6)] → W p l e (headSpec (wsA yX2_fewestGnawed cX2_fewestGnawed 7 (some .int)) ({ frames := 2, cells := 0, slots := 0, locals := 47 })).room s m (#[.int p0, .int p1, .int p2, .int p3] : Array Value) below meth c s.heap [] 0 0 (MQ below (vp_Si Q) (#[.int p0, .int p1, .int p2, .int p3] : Array Value) s 0 0 (fun _ => False)) (F0 m 24 ls []) := by
        rintro x0 x2 x3 x4 x5 x6 ls ⟨k, hk, hI⟩ hl
        exact ih_24 k hk x0 x2 x3 x4 x5 x6 ls hI hl
      unfold LB_X2_fewestGnawed_24 at hf
      refine lv_iload hx hb dX2_fewestGnawed_24 (lv_at hl 5 rfl) ?_
      refine lv_bipush (v := (20 : Int32)) hx hb dX2_fewestGnawed_26 (by decide) ?_
      refine lv_icmp_gt (tgt := 73) hx hb dX2_fewestGnawed_28 (by decide) (fun c_1 => ?_) (fun c_1 => ?_)
      · have hf := hf.1 c_1
        refine lv_bipush (v := (-9 : Int32)) hx hb dX2_fewestGnawed_73 (by decide) ?_
        exact W.iret (v := (-9 : Int32)) hx hb hr (fun t ht hW => ⟨(-9 : Int32), rfl, hf, ht⟩) (fun q h => absurd h List.not_mem_nil) dX2_fewestGnawed_75
      · have hf := hf.2 c_1
        refine lv_iload hx hb dX2_fewestGnawed_31 (lv_at hl 4 rfl) ?_
        refine lv_iload_n hx hb dX2_fewestGnawed_33 rfl (lv_at hl 1 rfl) ?_
        have hPc : va_P D classes ([] : va_W) s.heap := hP
        refine vp_callSi (W.runS (As := [.int x5, .int x2]) (rest := []) ⟨hx, hb, hml, hown, hts⟩ (c_X2_flood l D cI cZ cW  x5 x2 _ hf) ⟨callB_of 2 hts (gA tw_496) rfl rfl rfl (ht _ tw_9) (ht _ tw_494) hd_X2_flood ⟨Nat.le_of_ble_eq_true rfl, Nat.le_of_ble_eq_true rfl⟩, ht _ tw_495⟩ ⟨PR_blind, fun U hU hW => PR_mk hPc hK hU hW⟩ rfl rfl hl.1 rfl (lv_room (Nat.le_of_ble_eq_true rfl)) dX2_fewestGnawed_34 ⟨Nat.zero_le _, Nat.zero_le _⟩) (fun r_2 hf => ?_)
        refine lv_istore (lv' := [(5, .int r_2), (0, .int x0), (2, .int x2), (3, .int x3), (4, .int x4), (6, .int x6)]) hx hb dX2_fewestGnawed_37 hl (by decide) rfl (fun ls hl => ?_)
        refine lv_iload hx hb dX2_fewestGnawed_39 (lv_at hl 0 rfl) ?_
        refine lv_iload hx hb dX2_fewestGnawed_41 (lv_at hl 4 rfl) ?_
        refine lv_iand hx hb dX2_fewestGnawed_43 ?_
        refine lv_if_eq (tgt := 50) hx hb dX2_fewestGnawed_44 (by decide) (fun c_3 => ?_) (fun c_3 => ?_)
        · have hf := hf.1 c_3
          refine lv_iload hx hb dX2_fewestGnawed_50 (lv_at hl 0 rfl) ?_
          refine lv_iload hx hb dX2_fewestGnawed_52 (lv_at hl 0 rfl) ?_
          have hPc : va_P D classes ([] : va_W) s.heap := hP
          refine vp_callSi (W.runS (As := [.int r_2]) (rest := [.int r_2]) ⟨hx, hb, hml, hown, hts⟩ (c_X2_beside l D cI cZ cW  r_2 _ hf) ⟨callB_of 1 hts (gA tw_385) rfl rfl rfl (ht _ tw_9) (ht _ tw_485) hd_X2_beside ⟨Nat.le_of_ble_eq_true rfl, Nat.le_of_ble_eq_true rfl⟩, ht _ tw_384⟩ ⟨PR_blind, fun U hU hW => PR_mk hPc hK hU hW⟩ rfl rfl hl.1 rfl (lv_room (Nat.le_of_ble_eq_true rfl)) dX2_fewestGnawed_54 ⟨Nat.zero_le _, Nat.zero_le _⟩) (fun r_4 hf => ?_)
          refine lv_iload_n hx hb dX2_fewestGnawed_57 rfl (lv_at hl 1 rfl) ?_
          have hPc : va_P D classes ([] : va_W) s.heap := hP
          refine vp_callSi (W.runS (As := [.int x0]) (rest := [.int r_4, .int r_2]) ⟨hx, hb, hml, hown, hts⟩ (c_X2_bitOf l D cI cZ cW  x0 _ hf) ⟨callB_of 1 hts (gA tw_248) rfl rfl rfl (ht _ tw_9) (ht _ tw_484) hd_X2_bitOf ⟨Nat.le_of_ble_eq_true rfl, Nat.le_of_ble_eq_true rfl⟩, ht _ tw_247⟩ ⟨PR_blind, fun U hU hW => PR_mk hPc hK hU hW⟩ rfl rfl hl.1 rfl (lv_room (Nat.le_of_ble_eq_true rfl)) dX2_fewestGnawed_58 ⟨Nat.zero_le _, Nat.zero_le _⟩) (fun r_5 hf => ?_)
          refine lv_ior hx hb dX2_fewestGnawed_61 ?_
          refine lv_iload_n hx hb dX2_fewestGnawed_62 rfl (lv_at hl 3 rfl) ?_
          refine lv_iand hx hb dX2_fewestGnawed_63 ?_
          refine lv_ior hx hb dX2_fewestGnawed_64 ?_
          refine lv_topi (fun x5_6 ex5_6 => ?_)
          have hf := hf x5_6 ex5_6
          refine lv_istore (lv' := [(5, .int x5_6), (0, .int x0), (2, .int x2), (3, .int x3), (4, .int x4), (6, .int x6)]) hx hb dX2_fewestGnawed_65 hl (by decide) rfl (fun ls hl => ?_)
          obtain ⟨x6_7, ex6_7⟩ : ∃ y : Int32, y = x6 + (1 : Int32) := ⟨_, rfl⟩
          have hf := hf x6_7 ex6_7
          refine lv_iinc (v := x6_7) (lv' := [(6, .int x6_7), (5, .int x5_6), (0, .int x0), (2, .int x2), (3, .int x3), (4, .int x4)]) hx hb dX2_fewestGnawed_67 hl (k := 5) rfl (by rw [ex6_7]; rfl) (by decide) rfl (fun ls hl => ?_)
          refine lv_goto (tgt := 24) hx hb dX2_fewestGnawed_70 (by decide) ?_
          exact hG_24 x0 x2 x3 x4 x5_6 x6_7 ls hf (lv_sub hl [2, 3, 4, 5, 1, 0] rfl)
        · have hf := hf.2 c_3
          refine lv_iload hx hb dX2_fewestGnawed_47 (lv_at hl 5 rfl) ?_
          exact W.iret (v := x6) hx hb hr (fun t ht hW => ⟨x6, rfl, hf, ht⟩) (fun q h => absurd h List.not_mem_nil) dX2_fewestGnawed_49
    exact main_24 n0_24 x0 x2 x3 x4 x5 x6 ls hI0_24 hl
  refine lv_iload_n hx hb dX2_fewestGnawed_0 rfl (lv_at hl 0 rfl) ?_
  refine lv_iload_n hx hb dX2_fewestGnawed_1 rfl (lv_at hl 1 rfl) ?_
  refine lv_icmp_ne (tgt := 7) hx hb dX2_fewestGnawed_2 (by decide) (fun c_8 => ?_) (fun c_8 => ?_)
  · have hf := hf.1 c_8
    refine lv_iload_n hx hb dX2_fewestGnawed_7 rfl (lv_at hl 1 rfl) ?_
    have hPc : va_P D classes ([] : va_W) s.heap := hP
    refine vp_callSi (W.runS (As := [.int p1]) (rest := []) ⟨hx, hb, hml, hown, hts⟩ (c_X2_bitOf l D cI cZ cW  p1 _ hf) ⟨callB_of 1 hts (gA tw_248) rfl rfl rfl (ht _ tw_9) (ht _ tw_484) hd_X2_bitOf ⟨Nat.le_of_ble_eq_true rfl, Nat.le_of_ble_eq_true rfl⟩, ht _ tw_247⟩ ⟨PR_blind, fun U hU hW => PR_mk hPc hK hU hW⟩ rfl rfl hl.1 rfl (lv_room (Nat.le_of_ble_eq_true rfl)) dX2_fewestGnawed_8 ⟨Nat.zero_le _, Nat.zero_le _⟩) (fun r_9 hf => ?_)
    refine lv_istore (lv' := [(4, .int r_9), (0, .int p0), (1, .int p1), (2, .int p2), (3, .int p3)]) hx hb dX2_fewestGnawed_11 hl (by decide) rfl (fun ls hl => ?_)
    refine lv_iload_n hx hb dX2_fewestGnawed_13 rfl (lv_at hl 1 rfl) ?_
    have hPc : va_P D classes ([] : va_W) s.heap := hP
    refine vp_callSi (W.runS (As := [.int p0]) (rest := []) ⟨hx, hb, hml, hown, hts⟩ (c_X2_bitOf l D cI cZ cW  p0 _ hf) ⟨callB_of 1 hts (gA tw_248) rfl rfl rfl (ht _ tw_9) (ht _ tw_484) hd_X2_bitOf ⟨Nat.le_of_ble_eq_true rfl, Nat.le_of_ble_eq_true rfl⟩, ht _ tw_247⟩ ⟨PR_blind, fun U hU hW => PR_mk hPc hK hU hW⟩ rfl rfl hl.1 rfl (lv_room (Nat.le_of_ble_eq_true rfl)) dX2_fewestGnawed_14 ⟨Nat.zero_le _, Nat.zero_le _⟩) (fun r_10 hf => ?_)
    refine lv_iload_n hx hb dX2_fewestGnawed_17 rfl (lv_at hl 3 rfl) ?_
    refine lv_iand hx hb dX2_fewestGnawed_18 ?_
    refine lv_topi (fun x5_11 ex5_11 => ?_)
    have hf := hf x5_11 ex5_11
    refine lv_istore (lv' := [(5, .int x5_11), (4, .int r_9), (0, .int p0), (1, .int p1), (2, .int p2), (3, .int p3)]) hx hb dX2_fewestGnawed_19 hl (by decide) rfl (fun ls hl => ?_)
    refine lv_iconst (v := (0 : Int32)) hx hb dX2_fewestGnawed_21 (by decide) ?_
    refine lv_istore (lv' := [(6, .int (0 : Int32)), (5, .int x5_11), (4, .int r_9), (0, .int p0), (1, .int p1), (2, .int p2), (3, .int p3)]) hx hb dX2_fewestGnawed_22 hl (by decide) rfl (fun ls hl => ?_)
    exact k_24 p0 p2 p3 r_9 x5_11 (0 : Int32) ls hf (lv_sub hl [3, 5, 6, 2, 1, 0] rfl)
  · have hf := hf.2 c_8
    refine lv_iconst (v := (0 : Int32)) hx hb dX2_fewestGnawed_5 (by decide) ?_
    exact W.iret (v := (0 : Int32)) hx hb hr (fun t ht hW => ⟨(0 : Int32), rfl, hf, ht⟩) (fun q h => absurd h List.not_mem_nil) dX2_fewestGnawed_6
def wp_X3_get (p1 : Int32) (n0 : Nat) (s0 : FA) (Q : Int32 → Prop) : Prop := ((p1 < 0 → Q (-9 : Int32)) ∧ (¬ p1 < 0 → (((nI n0) ≤ p1 → Q (-9 : Int32)) ∧ (¬ (nI n0) ≤ p1 → vp_in p1 n0 ∧ Q (s0 p1.toNatClampNeg)))))
set_option maxHeartbeats 4000000 in
set_option maxRecDepth 100000 in
theorem c_X3_get (l : Launch) (D : va_G) (cI cZ cW : ClassId) (a0 : Nat) (p1 : Int32) (n0 : Nat) (s0 : FA) (Q : Int32 → Prop) (hf : wp_X3_get p1 n0 s0 Q) : Met l yX3_get (wsA yX3_get cX3_get 2 (some .int)) ({ frames := 0, cells := 0, slots := 0, locals := 0 }) (PR D cI cZ cW [.ref a0, .int p1] (wI cI a0 n0 s0)) (vp_Si Q) 0 0 (fun _ => False) := by
  refine Met.ofW (cc := cX3_get) (maxL := 2) (ret := (some .int)) (by decide) rfl ?_
  intro p e s m args below meth c s₁ B hml hv
  obtain ⟨rfl, hP, hK⟩ := hv
  have hx := B.exec
  have hb := B.bytes
  have hr := B.returns
  have hts := atoms_spec (ws := (wsA yX3_get cX3_get 2 (some .int))) B.pre
  have ht : ∀ w ∈ lw_g, w.before _ s = true := fun w h => hts w (List.mem_cons_of_mem _ h)
  have hown : s.vm.findClass RX3 = some m.cls := findClass_of_methodNamed B.named
  have hlocks := B.notSynchronized
  have hl := lv_entry ([.ref a0, .int p1]) (n := 2) (Nat.le_of_ble_eq_true rfl)
  rw [lg_entry_eq]
  generalize (lg_sl ([.ref a0, .int p1]) ++ List.replicate (2 - (lg_sl ([.ref a0, .int p1])).length) Slot.unset).toArray = ls at hl ⊢
  have hl : lv_has ls 2 [(0, .ref a0), (1, .int p1)] := hl
  unfold wp_X3_get at hf
  refine lv_iload_n hx hb dX3_get_0 rfl (lv_at hl 1 rfl) ?_
  refine lv_if_lt (tgt := 16) hx hb dX3_get_1 (by decide) (fun c_1 => ?_) (fun c_1 => ?_)
  · have hf := hf.1 c_1
    refine lv_bipush (v := (-9 : Int32)) hx hb dX3_get_16 (by decide) ?_
    exact W.iret (v := (-9 : Int32)) hx hb hr (fun t ht hW => ⟨(-9 : Int32), rfl, hf, ht⟩) (fun q h => absurd h List.not_mem_nil) dX3_get_18
  · have hf := hf.2 c_1
    refine lv_iload_n hx hb dX3_get_4 rfl (lv_at hl 1 rfl) ?_
    refine lv_aload_n hx hb dX3_get_5 rfl (lv_at hl 0 rfl) ?_
    refine va_alen (v := (nI n0)) hx hb hK hP 0 0 rfl rfl rfl dX3_get_6 ?_
    refine lv_icmp_ge (tgt := 16) hx hb dX3_get_7 (by decide) (fun c_2 => ?_) (fun c_2 => ?_)
    · have hf := hf.1 c_2
      refine lv_bipush (v := (-9 : Int32)) hx hb dX3_get_16 (by decide) ?_
      exact W.iret (v := (-9 : Int32)) hx hb hr (fun t ht hW => ⟨(-9 : Int32), rfl, hf, ht⟩) (fun q h => absurd h List.not_mem_nil) dX3_get_18
    · have hf := hf.2 c_2
      refine lv_aload_n hx hb dX3_get_10 rfl (lv_at hl 0 rfl) ?_
      refine lv_iload_n hx hb dX3_get_11 rfl (lv_at hl 1 rfl) ?_
      obtain ⟨hi_3, hf⟩ := hf
      refine va_iald hx hb hK hP 0 0 rfl rfl hi_3 dX3_get_12 ?_
      refine lv_goto (tgt := 18) hx hb dX3_get_13 (by decide) ?_
      exact W.iret (v := (s0 p1.toNatClampNeg)) hx hb hr (fun t ht hW => ⟨(s0 p1.toNatClampNeg), rfl, hf, ht⟩) (fun q h => absurd h List.not_mem_nil) dX3_get_18
def wp_X3_put (p1 : Int32) (p2 : Int32) (n0 : Nat) (s0 : FA) (Q : FA → Prop) : Prop := ((p1 < 0 → Q s0) ∧ (¬ p1 < 0 → (((nI n0) ≤ p1 → Q s0) ∧ (¬ (nI n0) ≤ p1 → vp_in p1 n0 ∧ ∀ s0_4 : FA, s0_4 = upd s0 p1.toNatClampNeg p2 → Q s0_4))))
set_option maxHeartbeats 4000000 in
set_option maxRecDepth 100000 in
theorem c_X3_put (l : Launch) (D : va_G) (cI cZ cW : ClassId) (a0 : Nat) (sz : Nat) (p1 : Int32) (p2 : Int32) (n0 : Nat) (s0 : FA) (Q : FA → Prop) (hf : wp_X3_put p1 p2 n0 s0 Q) : Met l yX3_put (wsA yX3_put cX3_put 3 none) ({ frames := 0, cells := 0, slots := 0, locals := 0 }) (PW D cI cZ cW [.ref a0, .int p1, .int p2] (wI cI a0 n0 s0) sz) (va_Qv (fun (u : FA) => Q u) (fun u t => va_P D classes (wI cI a0 n0 u) t.heap) (va_A (wI cI a0 n0 s0) sz)) 0 0 (va_A (wI cI a0 n0 s0) sz) := by
  refine Met.ofW (cc := cX3_put) (maxL := 3) (ret := none) (by decide) rfl ?_
  intro p e s m args below meth c s₁ B hml hv
  obtain ⟨rfl, hsz, hP, hK, hD0⟩ := hv
  have hx := B.exec
  have hb := B.bytes
  have hr := B.returns
  have hts := atoms_spec (ws := (wsA yX3_put cX3_put 3 none)) B.pre
  have ht : ∀ w ∈ lw_g, w.before _ s = true := fun w h => hts w (List.mem_cons_of_mem _ h)
  have hown : s.vm.findClass RX3 = some m.cls := findClass_of_methodNamed B.named
  have hlocks := B.notSynchronized
  subst hsz
  have hD := hD0.self (sz := s.heap.size)
  generalize hAe : va_A (wI cI a0 n0 s0) s.heap.size = A at hD ⊢
  have hA : ∀ q : Nat, s.heap.size ≤ q → A q := fun q h => by rw [← hAe]; exact Or.inr h
  have hS : va_S A s.heap s.heap [] := va_S.rf
  have hl := lv_entry ([.ref a0, .int p1, .int p2]) (n := 3) (Nat.le_of_ble_eq_true rfl)
  rw [lg_entry_eq]
  generalize (lg_sl ([.ref a0, .int p1, .int p2]) ++ List.replicate (3 - (lg_sl ([.ref a0, .int p1, .int p2])).length) Slot.unset).toArray = ls at hl ⊢
  have hl : lv_has ls 3 [(0, .ref a0), (1, .int p1), (2, .int p2)] := hl
  unfold wp_X3_put at hf
  have start : ∀ (H : Heap) (locs : List Loc), va_P D classes (wI cI a0 n0 s0) H → va_D A (wI cI a0 n0 s0) → va_S A s.heap H locs → W p l e (headSpec (wsA yX3_put cX3_put 3 none) ({ frames := 0, cells := 0, slots := 0, locals := 0 })).room s m (#[.ref a0, .int p1, .int p2] : Array Value) below meth c H locs 0 0 (MQ below (va_Qv (fun (u : FA) => Q u) (fun u t => va_P D classes (wI cI a0 n0 u) t.heap) A) (#[.ref a0, .int p1, .int p2] : Array Value) s 0 0 A) (F0 m 0 ls []) := by
    intro H locs hP hD hS
    refine lv_iload_n hx hb dX3_put_0 rfl (lv_at hl 1 rfl) ?_
    refine lv_if_lt (tgt := 14) hx hb dX3_put_1 (by decide) (fun c_1 => ?_) (fun c_1 => ?_)
    · have hf := hf.1 c_1
      exact W.vret hx hb hr (fun t ht hW => ⟨⟨s0, rfl, hf, P_heap ht hP⟩, hS.F ht⟩) hS.2.2 dX3_put_14
    · have hf := hf.2 c_1
      refine lv_iload_n hx hb dX3_put_4 rfl (lv_at hl 1 rfl) ?_
      refine lv_aload_n hx hb dX3_put_5 rfl (lv_at hl 0 rfl) ?_
      refine va_alen (v := (nI n0)) hx hb hK hP 0 0 rfl rfl rfl dX3_put_6 ?_
      refine lv_icmp_ge (tgt := 14) hx hb dX3_put_7 (by decide) (fun c_2 => ?_) (fun c_2 => ?_)
      · have hf := hf.1 c_2
        exact W.vret hx hb hr (fun t ht hW => ⟨⟨s0, rfl, hf, P_heap ht hP⟩, hS.F ht⟩) hS.2.2 dX3_put_14
      · have hf := hf.2 c_2
        refine lv_aload_n hx hb dX3_put_10 rfl (lv_at hl 0 rfl) ?_
        refine lv_iload_n hx hb dX3_put_11 rfl (lv_at hl 1 rfl) ?_
        refine lv_iload_n hx hb dX3_put_12 rfl (lv_at hl 2 rfl) ?_
        obtain ⟨hi_3, hf⟩ := hf
        refine va_iast hx hb hK hP hD hS 0 0 rfl rfl hi_3 dX3_put_13 (fun H locs hP hD hS => ?_)
        obtain ⟨s0_4, es0_4⟩ : ∃ y : FA, y = upd s0 p1.toNatClampNeg p2 := ⟨_, rfl⟩
        have hf := hf s0_4 es0_4
        have hP : va_P D classes (wI cI a0 n0 s0_4) H := by rw [es0_4]; exact hP
        have hD : va_D A (wI cI a0 n0 s0_4) := by rw [es0_4]; exact hD
        exact W.vret hx hb hr (fun t ht hW => ⟨⟨s0_4, rfl, hf, P_heap ht hP⟩, hS.F ht⟩) hS.2.2 dX3_put_14
  exact start s.heap [] hP hD hS
def wp_X3_add (p1 : Int32) (p2 : Int32) (n0 : Nat) (s0 : FA) (Q : FA → Prop) : Prop := ((p1 < 0 → Q s0) ∧ (¬ p1 < 0 → (((nI n0) ≤ p1 → Q s0) ∧ (¬ (nI n0) ≤ p1 → vp_in p1 n0 ∧ vp_in p1 n0 ∧ ∀ s0_5 : FA, s0_5 = upd s0 p1.toNatClampNeg ((s0 p1.toNatClampNeg) + p2) → Q s0_5))))
set_option maxHeartbeats 4000000 in
set_option maxRecDepth 100000 in
theorem c_X3_add (l : Launch) (D : va_G) (cI cZ cW : ClassId) (a0 : Nat) (sz : Nat) (p1 : Int32) (p2 : Int32) (n0 : Nat) (s0 : FA) (Q : FA → Prop) (hf : wp_X3_add p1 p2 n0 s0 Q) : Met l yX3_add (wsA yX3_add cX3_add 3 none) ({ frames := 0, cells := 0, slots := 0, locals := 0 }) (PW D cI cZ cW [.ref a0, .int p1, .int p2] (wI cI a0 n0 s0) sz) (va_Qv (fun (u : FA) => Q u) (fun u t => va_P D classes (wI cI a0 n0 u) t.heap) (va_A (wI cI a0 n0 s0) sz)) 0 0 (va_A (wI cI a0 n0 s0) sz) := by
  refine Met.ofW (cc := cX3_add) (maxL := 3) (ret := none) (by decide) rfl ?_
  intro p e s m args below meth c s₁ B hml hv
  obtain ⟨rfl, hsz, hP, hK, hD0⟩ := hv
  have hx := B.exec
  have hb := B.bytes
  have hr := B.returns
  have hts := atoms_spec (ws := (wsA yX3_add cX3_add 3 none)) B.pre
  have ht : ∀ w ∈ lw_g, w.before _ s = true := fun w h => hts w (List.mem_cons_of_mem _ h)
  have hown : s.vm.findClass RX3 = some m.cls := findClass_of_methodNamed B.named
  have hlocks := B.notSynchronized
  subst hsz
  have hD := hD0.self (sz := s.heap.size)
  generalize hAe : va_A (wI cI a0 n0 s0) s.heap.size = A at hD ⊢
  have hA : ∀ q : Nat, s.heap.size ≤ q → A q := fun q h => by rw [← hAe]; exact Or.inr h
  have hS : va_S A s.heap s.heap [] := va_S.rf
  have hl := lv_entry ([.ref a0, .int p1, .int p2]) (n := 3) (Nat.le_of_ble_eq_true rfl)
  rw [lg_entry_eq]
  generalize (lg_sl ([.ref a0, .int p1, .int p2]) ++ List.replicate (3 - (lg_sl ([.ref a0, .int p1, .int p2])).length) Slot.unset).toArray = ls at hl ⊢
  have hl : lv_has ls 3 [(0, .ref a0), (1, .int p1), (2, .int p2)] := hl
  unfold wp_X3_add at hf
  have start : ∀ (H : Heap) (locs : List Loc), va_P D classes (wI cI a0 n0 s0) H → va_D A (wI cI a0 n0 s0) → va_S A s.heap H locs → W p l e (headSpec (wsA yX3_add cX3_add 3 none) ({ frames := 0, cells := 0, slots := 0, locals := 0 })).room s m (#[.ref a0, .int p1, .int p2] : Array Value) below meth c H locs 0 0 (MQ below (va_Qv (fun (u : FA) => Q u) (fun u t => va_P D classes (wI cI a0 n0 u) t.heap) A) (#[.ref a0, .int p1, .int p2] : Array Value) s 0 0 A) (F0 m 0 ls []) := by
    intro H locs hP hD hS
    refine lv_iload_n hx hb dX3_add_0 rfl (lv_at hl 1 rfl) ?_
    refine lv_if_lt (tgt := 17) hx hb dX3_add_1 (by decide) (fun c_1 => ?_) (fun c_1 => ?_)
    · have hf := hf.1 c_1
      exact W.vret hx hb hr (fun t ht hW => ⟨⟨s0, rfl, hf, P_heap ht hP⟩, hS.F ht⟩) hS.2.2 dX3_add_17
    · have hf := hf.2 c_1
      refine lv_iload_n hx hb dX3_add_4 rfl (lv_at hl 1 rfl) ?_
      refine lv_aload_n hx hb dX3_add_5 rfl (lv_at hl 0 rfl) ?_
      refine va_alen (v := (nI n0)) hx hb hK hP 0 0 rfl rfl rfl dX3_add_6 ?_
      refine lv_icmp_ge (tgt := 17) hx hb dX3_add_7 (by decide) (fun c_2 => ?_) (fun c_2 => ?_)
      · have hf := hf.1 c_2
        exact W.vret hx hb hr (fun t ht hW => ⟨⟨s0, rfl, hf, P_heap ht hP⟩, hS.F ht⟩) hS.2.2 dX3_add_17
      · have hf := hf.2 c_2
        refine lv_aload_n hx hb dX3_add_10 rfl (lv_at hl 0 rfl) ?_
        refine lv_iload_n hx hb dX3_add_11 rfl (lv_at hl 1 rfl) ?_
        refine lv_dup2_11 hx hb dX3_add_12 rfl rfl ?_
        obtain ⟨hi_3, hf⟩ := hf
        refine va_iald hx hb hK hP 0 0 rfl rfl hi_3 dX3_add_13 ?_
        refine lv_iload_n hx hb dX3_add_14 rfl (lv_at hl 2 rfl) ?_
        refine lv_iadd hx hb dX3_add_15 ?_
        obtain ⟨hi_4, hf⟩ := hf
        refine va_iast hx hb hK hP hD hS 0 0 rfl rfl hi_4 dX3_add_16 (fun H locs hP hD hS => ?_)
        obtain ⟨s0_5, es0_5⟩ : ∃ y : FA, y = upd s0 p1.toNatClampNeg ((s0 p1.toNatClampNeg) + p2) := ⟨_, rfl⟩
        have hf := hf s0_5 es0_5
        have hP : va_P D classes (wI cI a0 n0 s0_5) H := by rw [es0_5]; exact hP
        have hD : va_D A (wI cI a0 n0 s0_5) := by rw [es0_5]; exact hD
        exact W.vret hx hb hr (fun t ht hW => ⟨⟨s0_5, rfl, hf, P_heap ht hP⟩, hS.F ht⟩) hS.2.2 dX3_add_17
  exact start s.heap [] hP hD hS
def wp_J9_abs_0f7a4 (p0 : Int32) (Q : Int32 → Prop) : Prop := ((0 ≤ p0 → Q p0) ∧ (¬ 0 ≤ p0 → Q (-p0)))
set_option maxHeartbeats 4000000 in
set_option maxRecDepth 100000 in
theorem c_J9_abs_0f7a4 (l : Launch) (D : va_G) (cI cZ cW : ClassId)  (p0 : Int32) (Q : Int32 → Prop) (hf : wp_J9_abs_0f7a4 p0 Q) : Met l yJ9_abs_0f7a4 (wsA yJ9_abs_0f7a4 cJ9_abs_0f7a4 1 (some .int)) ({ frames := 0, cells := 0, slots := 0, locals := 0 }) (PR D cI cZ cW [.int p0] ([] : va_W)) (vp_Si Q) 0 0 (fun _ => False) := by
  refine Met.ofW (cc := cJ9_abs_0f7a4) (maxL := 1) (ret := (some .int)) (by decide) rfl ?_
  intro p e s m args below meth c s₁ B hml hv
  obtain ⟨rfl, hP, hK⟩ := hv
  have hx := B.exec
  have hb := B.bytes
  have hr := B.returns
  have hts := atoms_spec (ws := (wsA yJ9_abs_0f7a4 cJ9_abs_0f7a4 1 (some .int))) B.pre
  have ht : ∀ w ∈ lw_g, w.before _ s = true := fun w h => hts w (List.mem_cons_of_mem _ h)
  have hown : s.vm.findClass RJ9 = some m.cls := findClass_of_methodNamed B.named
  have hlocks := B.notSynchronized
  have hl := lv_entry ([.int p0]) (n := 1) (Nat.le_of_ble_eq_true rfl)
  rw [lg_entry_eq]
  generalize (lg_sl ([.int p0]) ++ List.replicate (1 - (lg_sl ([.int p0])).length) Slot.unset).toArray = ls at hl ⊢
  have hl : lv_has ls 1 [(0, .int p0)] := hl
  unfold wp_J9_abs_0f7a4 at hf
  refine lv_iload_n hx hb dJ9_abs_0f7a4_0 rfl (lv_at hl 0 rfl) ?_
  refine lv_if_ge (tgt := 9) hx hb dJ9_abs_0f7a4_1 (by decide) (fun c_1 => ?_) (fun c_1 => ?_)
  · have hf := hf.1 c_1
    refine lv_iload_n hx hb dJ9_abs_0f7a4_9 rfl (lv_at hl 0 rfl) ?_
    exact W.iret (v := p0) hx hb hr (fun t ht hW => ⟨p0, rfl, hf, ht⟩) (fun q h => absurd h List.not_mem_nil) dJ9_abs_0f7a4_10
  · have hf := hf.2 c_1
    refine lv_iload_n hx hb dJ9_abs_0f7a4_4 rfl (lv_at hl 0 rfl) ?_
    refine lv_ineg hx hb dJ9_abs_0f7a4_5 ?_
    refine lv_goto (tgt := 10) hx hb dJ9_abs_0f7a4_6 (by decide) ?_
    exact W.iret (v := (-p0)) hx hb hr (fun t ht hW => ⟨(-p0), rfl, hf, ht⟩) (fun q h => absurd h List.not_mem_nil) dJ9_abs_0f7a4_10
def LB_J7_fill_53178_5 (G5 : (Int32 × Int32 × Int32 × FA) → Prop) (n0 : Nat) (x1 : Int32) (x2 : Int32) (x3 : Int32) (s0 : FA) (Q : FA → Prop) : Prop := ((x3 ≤ x2 → Q s0) ∧ (¬ x3 ≤ x2 → vp_in x2 n0 ∧ ∀ s0_3 : FA, s0_3 = upd s0 x2.toNatClampNeg x1 → ∀ x2_4 : Int32, x2_4 = x2 + (1 : Int32) → G5 (x1, x2_4, x3, s0_3)))
def B_J7_fill_53178_5 (n0 : Nat) (x1 : Int32) (x2 : Int32) (x3 : Int32) (s0 : FA) (Q : FA → Prop) : Prop := LOOP (fun (G5 : (Int32 × Int32 × Int32 × FA) → Prop) z => LB_J7_fill_53178_5 G5 n0 z.1 z.2.1 z.2.2.1 z.2.2.2 Q) (x1, x2, x3, s0)
def wp_J7_fill_53178 (p1 : Int32) (n0 : Nat) (s0 : FA) (Q : FA → Prop) : Prop := ∀ x3_5 : Int32, x3_5 = (nI n0) → B_J7_fill_53178_5 n0 p1 (0 : Int32) x3_5 s0 Q
set_option maxHeartbeats 4000000 in
set_option maxRecDepth 100000 in
theorem c_J7_fill_53178 (l : Launch) (D : va_G) (cI cZ cW : ClassId) (a0 : Nat) (sz : Nat) (p1 : Int32) (n0 : Nat) (s0 : FA) (Q : FA → Prop) (hf : wp_J7_fill_53178 p1 n0 s0 Q) : Met l yJ7_fill_53178 (wsA yJ7_fill_53178 cJ7_fill_53178 4 none) ({ frames := 0, cells := 0, slots := 0, locals := 0 }) (PW D cI cZ cW [.ref a0, .int p1] (wI cI a0 n0 s0) sz) (va_Qv (fun (u : FA) => Q u) (fun u t => va_P D classes (wI cI a0 n0 u) t.heap) (va_A (wI cI a0 n0 s0) sz)) 0 0 (va_A (wI cI a0 n0 s0) sz) := by
  refine Met.ofW (cc := cJ7_fill_53178) (maxL := 4) (ret := none) (by decide) rfl ?_
  intro p e s m args below meth c s₁ B hml hv
  obtain ⟨rfl, hsz, hP, hK, hD0⟩ := hv
  have hx := B.exec
  have hb := B.bytes
  have hr := B.returns
  have hts := atoms_spec (ws := (wsA yJ7_fill_53178 cJ7_fill_53178 4 none)) B.pre
  have ht : ∀ w ∈ lw_g, w.before _ s = true := fun w h => hts w (List.mem_cons_of_mem _ h)
  have hown : s.vm.findClass RJ7 = some m.cls := findClass_of_methodNamed B.named
  have hlocks := B.notSynchronized
  subst hsz
  have hD := hD0.self (sz := s.heap.size)
  generalize hAe : va_A (wI cI a0 n0 s0) s.heap.size = A at hD ⊢
  have hA : ∀ q : Nat, s.heap.size ≤ q → A q := fun q h => by rw [← hAe]; exact Or.inr h
  have hS : va_S A s.heap s.heap [] := va_S.rf
  have hl := lv_entry ([.ref a0, .int p1]) (n := 4) (Nat.le_of_ble_eq_true rfl)
  rw [lg_entry_eq]
  generalize (lg_sl ([.ref a0, .int p1]) ++ List.replicate (4 - (lg_sl ([.ref a0, .int p1])).length) Slot.unset).toArray = ls at hl ⊢
  have hl : lv_has ls 4 [(0, .ref a0), (1, .int p1)] := hl
  unfold wp_J7_fill_53178 at hf
  have k_5 : ∀ (x1 : Int32) (x2 : Int32) (x3 : Int32) (s0 : FA) (H : Heap) (locs : List Loc) (ls : Array Slot), B_J7_fill_53178_5 n0 x1 x2 x3 s0 Q → va_P D classes (wI cI a0 n0 s0) H → va_D A (wI cI a0 n0 s0) → va_S A s.heap H locs → lv_has ls 4 [(0, .ref a0), (1, .int x1), (2, .int x2), (3, .int x3)] → W p l e (headSpec (wsA yJ7_fill_53178 cJ7_fill_53178 4 none) ({ frames := 0, cells := 0, slots := 0, locals := 0 })).room s m (#[.ref a0, .int p1] : Array Value) below meth c H locs 0 0 (MQ below (va_Qv (fun (u : FA) => Q u) (fun u t => va_P D classes (wI cI a0 n0 u) t.heap) A) (#[.ref a0, .int p1] : Array Value) s 0 0 A) (F0 m 5 ls []) := by
    intro x1 x2 x3 s0 H locs ls hf hP hD hS hl
    unfold B_J7_fill_53178_5 at hf
    obtain ⟨I_5, ⟨n0_5, hI0_5⟩, hst_5⟩ := hf
    have main_5 : ∀ (n : Nat) (x1 : Int32) (x2 : Int32) (x3 : Int32) (s0 : FA) (H : Heap) (locs : List Loc) (ls : Array Slot), I_5 n (x1, x2, x3, s0) → va_P D classes (wI cI a0 n0 s0) H → va_D A (wI cI a0 n0 s0) → va_S A s.heap H locs → lv_has ls 4 [(0, .ref a0), (1, .int x1), (2, .int x2), (3, .int x3)] → W p l e (headSpec (wsA yJ7_fill_53178 cJ7_fill_53178 4 none) ({ frames := 0, cells := 0, slots := 0, locals := 0 })).room s m (#[.ref a0, .int p1] : Array Value) below meth c H locs 0 0 (MQ below (va_Qv (fun (u : FA) => Q u) (fun u t => va_P D classes (wI cI a0 n0 u) t.heap) A) (#[.ref a0, .int p1] : Array Value) s 0 0 A) (F0 m 5 ls []) := by
      intro n
      induction n using Nat.strongRecOn with
      | _ n_5 ih_5 =>
      intro x1 x2 x3 s0 H locs ls hI hP hD hS hl
      have hf : LB_J7_fill_53178_5 (fun z => ∃ k, k < n_5 ∧ I_5 k z) n0 x1 x2 x3 s0 Q := hst_5 n_5 (x1, x2, x3, s0) hI
      have hG_5 : ∀ (x1 : Int32) (x2 : Int32) (x3 : Int32) (s0 : FA) (H : Heap) (locs : List Loc) (ls : Array Slot), (∃ k, k < n_5 ∧ I_5 k (x1, x2, x3, s0)) → va_P D classes (wI cI a0 n0 s0) H → va_D A (wI cI a0 n0 s0) → va_S A s.heap H locs → lv_has ls 4 [(0, .ref a0), (1, .int x1), (2, .int x2), (3, .int x3)] → W p l e (headSpec (wsA yJ7_fill_53178 cJ7_fill_53178 4 none) ({ frames := 0, cells := 0, slots := 0, locals := 0 })).room s m (#[.ref a0, .int p1] : Array Value) below meth c H locs 0 0 (MQ below (va_Qv (fun (u : FA) => Q u) (fun u t => va_P D classes (wI cI a0 n0 u) t.heap) A) (#[.ref a0, .int p1] : Array Value) s 0 0 A) (F0 m 5 ls []) := by
        rintro x1 x2 x3 s0 H locs ls ⟨k, hk, hI⟩ hP hD hS hl
        exact ih_5 k hk x1 x2 x3 s0 H locs ls hI hP hD hS hl
      unfold LB_J7_fill_53178_5 at hf
      refine lv_iload_n hx hb dJ7_fill_53178_5 rfl (lv_at hl 2 rfl) ?_
      refine lv_iload_n hx hb dJ7_fill_53178_6 rfl (lv_at hl 3 rfl) ?_
      refine lv_icmp_ge (tgt := 20) hx hb dJ7_fill_53178_7 (by decide) (fun c_1 => ?_) (fun c_1 => ?_)
      · have hf := hf.1 c_1
        exact W.vret hx hb hr (fun t ht hW => ⟨⟨s0, rfl, hf, P_heap ht hP⟩, hS.F ht⟩) hS.2.2 dJ7_fill_53178_20
      · have hf := hf.2 c_1
        refine lv_aload_n hx hb dJ7_fill_53178_10 rfl (lv_at hl 0 rfl) ?_
        refine lv_iload_n hx hb dJ7_fill_53178_11 rfl (lv_at hl 2 rfl) ?_
        refine lv_iload_n hx hb dJ7_fill_53178_12 rfl (lv_at hl 1 rfl) ?_
        obtain ⟨hi_2, hf⟩ := hf
        refine va_iast hx hb hK hP hD hS 0 0 rfl rfl hi_2 dJ7_fill_53178_13 (fun H locs hP hD hS => ?_)
        obtain ⟨s0_3, es0_3⟩ : ∃ y : FA, y = upd s0 x2.toNatClampNeg x1 := ⟨_, rfl⟩
        have hf := hf s0_3 es0_3
        have hP : va_P D classes (wI cI a0 n0 s0_3) H := by rw [es0_3]; exact hP
        have hD : va_D A (wI cI a0 n0 s0_3) := by rw [es0_3]; exact hD
        obtain ⟨x2_4, ex2_4⟩ : ∃ y : Int32, y = x2 + (1 : Int32) := ⟨_, rfl⟩
        have hf := hf x2_4 ex2_4
        refine lv_iinc (v := x2_4) (lv' := [(2, .int x2_4), (0, .ref a0), (1, .int x1), (3, .int x3)]) hx hb dJ7_fill_53178_14 hl (k := 2) rfl (by rw [ex2_4]; rfl) (by decide) rfl (fun ls hl => ?_)
        refine lv_goto (tgt := 5) hx hb dJ7_fill_53178_17 (by decide) ?_
        exact hG_5 x1 x2_4 x3 s0_3 H locs ls hf hP hD hS (lv_sub hl [1, 2, 0, 3] rfl)
    exact main_5 n0_5 x1 x2 x3 s0 H locs ls hI0_5 hP hD hS hl
  have start : ∀ (H : Heap) (locs : List Loc), va_P D classes (wI cI a0 n0 s0) H → va_D A (wI cI a0 n0 s0) → va_S A s.heap H locs → W p l e (headSpec (wsA yJ7_fill_53178 cJ7_fill_53178 4 none) ({ frames := 0, cells := 0, slots := 0, locals := 0 })).room s m (#[.ref a0, .int p1] : Array Value) below meth c H locs 0 0 (MQ below (va_Qv (fun (u : FA) => Q u) (fun u t => va_P D classes (wI cI a0 n0 u) t.heap) A) (#[.ref a0, .int p1] : Array Value) s 0 0 A) (F0 m 0 ls []) := by
    intro H locs hP hD hS
    refine lv_iconst (v := (0 : Int32)) hx hb dJ7_fill_53178_0 (by decide) ?_
    refine lv_istore_n (lv' := [(2, .int (0 : Int32)), (0, .ref a0), (1, .int p1)]) hx hb dJ7_fill_53178_1 rfl hl (by decide) rfl (fun ls hl => ?_)
    refine lv_aload_n hx hb dJ7_fill_53178_2 rfl (lv_at hl 1 rfl) ?_
    refine va_alen (v := (nI n0)) hx hb hK hP 0 0 rfl rfl rfl dJ7_fill_53178_3 ?_
    refine lv_topi (fun x3_5 ex3_5 => ?_)
    have hf := hf x3_5 ex3_5
    refine lv_istore_n (lv' := [(3, .int x3_5), (2, .int (0 : Int32)), (0, .ref a0), (1, .int p1)]) hx hb dJ7_fill_53178_4 rfl hl (by decide) rfl (fun ls hl => ?_)
    exact k_5 p1 (0 : Int32) x3_5 s0 H locs ls hf hP hD hS (lv_sub hl [2, 3, 1, 0] rfl)
  exact start s.heap [] hP hD hS
end
