theorem dX5_copyFrom_0 : decode cX5_copyFrom 0 = .ok (.aload_n 1, 1) := by decide +kernel
theorem dX5_copyFrom_1 : decode cX5_copyFrom 1 = .ok (.getfield 9, 3) := by decide +kernel
theorem dX5_copyFrom_4 : decode cX5_copyFrom 4 = .ok (.iconst 0, 1) := by decide +kernel
theorem dX5_copyFrom_5 : decode cX5_copyFrom 5 = .ok (.aload_n 0, 1) := by decide +kernel
theorem dX5_copyFrom_6 : decode cX5_copyFrom 6 = .ok (.getfield 9, 3) := by decide +kernel
theorem dX5_copyFrom_9 : decode cX5_copyFrom 9 = .ok (.iconst 0, 1) := by decide +kernel
theorem dX5_copyFrom_10 : decode cX5_copyFrom 10 = .ok (.iconst 5, 1) := by decide +kernel
theorem dX5_copyFrom_11 : decode cX5_copyFrom 11 = .ok (.invokestatic 37, 3) := by decide +kernel
theorem dX5_copyFrom_14 : decode cX5_copyFrom 14 = .ok (.aload_n 1, 1) := by decide +kernel
theorem dX5_copyFrom_15 : decode cX5_copyFrom 15 = .ok (.getfield 15, 3) := by decide +kernel
theorem dX5_copyFrom_18 : decode cX5_copyFrom 18 = .ok (.iconst 0, 1) := by decide +kernel
theorem dX5_copyFrom_19 : decode cX5_copyFrom 19 = .ok (.aload_n 0, 1) := by decide +kernel
theorem dX5_copyFrom_20 : decode cX5_copyFrom 20 = .ok (.getfield 15, 3) := by decide +kernel
theorem dX5_copyFrom_23 : decode cX5_copyFrom 23 = .ok (.iconst 0, 1) := by decide +kernel
theorem dX5_copyFrom_24 : decode cX5_copyFrom 24 = .ok (.iconst 5, 1) := by decide +kernel
theorem dX5_copyFrom_25 : decode cX5_copyFrom 25 = .ok (.invokestatic 37, 3) := by decide +kernel
theorem dX5_copyFrom_28 : decode cX5_copyFrom 28 = .ok (.aload_n 1, 1) := by decide +kernel
theorem dX5_copyFrom_29 : decode cX5_copyFrom 29 = .ok (.getfield 18, 3) := by decide +kernel
theorem dX5_copyFrom_32 : decode cX5_copyFrom 32 = .ok (.iconst 0, 1) := by decide +kernel
theorem dX5_copyFrom_33 : decode cX5_copyFrom 33 = .ok (.aload_n 0, 1) := by decide +kernel
theorem dX5_copyFrom_34 : decode cX5_copyFrom 34 = .ok (.getfield 18, 3) := by decide +kernel
theorem dX5_copyFrom_37 : decode cX5_copyFrom 37 = .ok (.iconst 0, 1) := by decide +kernel
theorem dX5_copyFrom_38 : decode cX5_copyFrom 38 = .ok (.iconst 5, 1) := by decide +kernel
theorem dX5_copyFrom_39 : decode cX5_copyFrom 39 = .ok (.invokestatic 37, 3) := by decide +kernel
theorem dX5_copyFrom_42 : decode cX5_copyFrom 42 = .ok (.aload_n 1, 1) := by decide +kernel
theorem dX5_copyFrom_43 : decode cX5_copyFrom 43 = .ok (.getfield 21, 3) := by decide +kernel
theorem dX5_copyFrom_46 : decode cX5_copyFrom 46 = .ok (.iconst 0, 1) := by decide +kernel
theorem dX5_copyFrom_47 : decode cX5_copyFrom 47 = .ok (.aload_n 0, 1) := by decide +kernel
theorem dX5_copyFrom_48 : decode cX5_copyFrom 48 = .ok (.getfield 21, 3) := by decide +kernel
theorem dX5_copyFrom_51 : decode cX5_copyFrom 51 = .ok (.iconst 0, 1) := by decide +kernel
theorem dX5_copyFrom_52 : decode cX5_copyFrom 52 = .ok (.iconst 4, 1) := by decide +kernel
theorem dX5_copyFrom_53 : decode cX5_copyFrom 53 = .ok (.invokestatic 37, 3) := by decide +kernel
theorem dX5_copyFrom_56 : decode cX5_copyFrom 56 = .ok (.aload_n 0, 1) := by decide +kernel
theorem dX5_copyFrom_57 : decode cX5_copyFrom 57 = .ok (.aload_n 1, 1) := by decide +kernel
theorem dX5_copyFrom_58 : decode cX5_copyFrom 58 = .ok (.getfield 24, 3) := by decide +kernel
theorem dX5_copyFrom_61 : decode cX5_copyFrom 61 = .ok (.putfield 24, 3) := by decide +kernel
theorem dX5_copyFrom_64 : decode cX5_copyFrom 64 = .ok (.aload_n 0, 1) := by decide +kernel
theorem dX5_copyFrom_65 : decode cX5_copyFrom 65 = .ok (.aload_n 1, 1) := by decide +kernel
theorem dX5_copyFrom_66 : decode cX5_copyFrom 66 = .ok (.getfield 28, 3) := by decide +kernel
theorem dX5_copyFrom_69 : decode cX5_copyFrom 69 = .ok (.putfield 28, 3) := by decide +kernel
theorem dX5_copyFrom_72 : decode cX5_copyFrom 72 = .ok (.return_, 1) := by decide +kernel
theorem dX5_beginWith_0 : decode cX5_beginWith 0 = .ok (.iconst 0, 1) := by decide +kernel
theorem dX5_beginWith_1 : decode cX5_beginWith 1 = .ok (.istore_n 2, 1) := by decide +kernel
theorem dX5_beginWith_2 : decode cX5_beginWith 2 = .ok (.iload_n 2, 1) := by decide +kernel
theorem dX5_beginWith_3 : decode cX5_beginWith 3 = .ok (.iconst 5, 1) := by decide +kernel
theorem dX5_beginWith_4 : decode cX5_beginWith 4 = .ok (.if_icmp .ge 67, 3) := by decide +kernel
theorem dX5_beginWith_7 : decode cX5_beginWith 7 = .ok (.aload_n 1, 1) := by decide +kernel
theorem dX5_beginWith_8 : decode cX5_beginWith 8 = .ok (.iload_n 2, 1) := by decide +kernel
theorem dX5_beginWith_9 : decode cX5_beginWith 9 = .ok (.invokevirtual 43, 3) := by decide +kernel
theorem dX5_beginWith_12 : decode cX5_beginWith 12 = .ok (.istore_n 3, 1) := by decide +kernel
theorem dX5_beginWith_13 : decode cX5_beginWith 13 = .ok (.aload_n 0, 1) := by decide +kernel
theorem dX5_beginWith_14 : decode cX5_beginWith 14 = .ok (.getfield 9, 3) := by decide +kernel
theorem dX5_beginWith_17 : decode cX5_beginWith 17 = .ok (.iload_n 2, 1) := by decide +kernel
theorem dX5_beginWith_18 : decode cX5_beginWith 18 = .ok (.iload_n 3, 1) := by decide +kernel
theorem dX5_beginWith_19 : decode cX5_beginWith 19 = .ok (.ifCond .eq 15, 3) := by decide +kernel
theorem dX5_beginWith_22 : decode cX5_beginWith 22 = .ok (.aload_n 1, 1) := by decide +kernel
theorem dX5_beginWith_23 : decode cX5_beginWith 23 = .ok (.getfield 49, 3) := by decide +kernel
theorem dX5_beginWith_26 : decode cX5_beginWith 26 = .ok (.iload_n 2, 1) := by decide +kernel
theorem dX5_beginWith_27 : decode cX5_beginWith 27 = .ok (.iaload, 1) := by decide +kernel
theorem dX5_beginWith_28 : decode cX5_beginWith 28 = .ok (.invokestatic 52, 3) := by decide +kernel
theorem dX5_beginWith_31 : decode cX5_beginWith 31 = .ok (.goto 4, 3) := by decide +kernel
theorem dX5_beginWith_34 : decode cX5_beginWith 34 = .ok (.iconst 0, 1) := by decide +kernel
theorem dX5_beginWith_35 : decode cX5_beginWith 35 = .ok (.iastore, 1) := by decide +kernel
theorem dX5_beginWith_36 : decode cX5_beginWith 36 = .ok (.aload_n 0, 1) := by decide +kernel
theorem dX5_beginWith_37 : decode cX5_beginWith 37 = .ok (.getfield 15, 3) := by decide +kernel
theorem dX5_beginWith_40 : decode cX5_beginWith 40 = .ok (.iload_n 2, 1) := by decide +kernel
theorem dX5_beginWith_41 : decode cX5_beginWith 41 = .ok (.iload_n 3, 1) := by decide +kernel
theorem dX5_beginWith_42 : decode cX5_beginWith 42 = .ok (.ifCond .eq 12, 3) := by decide +kernel
theorem dX5_beginWith_45 : decode cX5_beginWith 45 = .ok (.aload_n 1, 1) := by decide +kernel
theorem dX5_beginWith_46 : decode cX5_beginWith 46 = .ok (.getfield 58, 3) := by decide +kernel
theorem dX5_beginWith_49 : decode cX5_beginWith 49 = .ok (.iload_n 2, 1) := by decide +kernel
theorem dX5_beginWith_50 : decode cX5_beginWith 50 = .ok (.iaload, 1) := by decide +kernel
theorem dX5_beginWith_51 : decode cX5_beginWith 51 = .ok (.goto 5, 3) := by decide +kernel
theorem dX5_beginWith_54 : decode cX5_beginWith 54 = .ok (.bipush (-9), 2) := by decide +kernel
theorem dX5_beginWith_56 : decode cX5_beginWith 56 = .ok (.iastore, 1) := by decide +kernel
theorem dX5_beginWith_57 : decode cX5_beginWith 57 = .ok (.aload_n 0, 1) := by decide +kernel
theorem dX5_beginWith_58 : decode cX5_beginWith 58 = .ok (.getfield 18, 3) := by decide +kernel
theorem dX5_beginWith_61 : decode cX5_beginWith 61 = .ok (.iload_n 2, 1) := by decide +kernel
theorem dX5_beginWith_62 : decode cX5_beginWith 62 = .ok (.bipush (-9), 2) := by decide +kernel
theorem dX5_beginWith_64 : decode cX5_beginWith 64 = .ok (.iastore, 1) := by decide +kernel
theorem dX5_beginWith_65 : decode cX5_beginWith 65 = .ok (.iinc 2 1, 3) := by decide +kernel
theorem dX5_beginWith_68 : decode cX5_beginWith 68 = .ok (.goto (-66), 3) := by decide +kernel
theorem dX5_beginWith_71 : decode cX5_beginWith 71 = .ok (.aload_n 0, 1) := by decide +kernel
theorem dX5_beginWith_72 : decode cX5_beginWith 72 = .ok (.getfield 21, 3) := by decide +kernel
theorem dX5_beginWith_75 : decode cX5_beginWith 75 = .ok (.iconst 0, 1) := by decide +kernel
theorem dX5_beginWith_76 : decode cX5_beginWith 76 = .ok (.invokestatic 31, 3) := by decide +kernel
theorem dX5_beginWith_79 : decode cX5_beginWith 79 = .ok (.aload_n 0, 1) := by decide +kernel
theorem dX5_beginWith_80 : decode cX5_beginWith 80 = .ok (.iconst 0, 1) := by decide +kernel
theorem dX5_beginWith_81 : decode cX5_beginWith 81 = .ok (.putfield 24, 3) := by decide +kernel
theorem dX5_beginWith_84 : decode cX5_beginWith 84 = .ok (.aload_n 0, 1) := by decide +kernel
theorem dX5_beginWith_85 : decode cX5_beginWith 85 = .ok (.iconst 0, 1) := by decide +kernel
theorem dX5_beginWith_86 : decode cX5_beginWith 86 = .ok (.putfield 28, 3) := by decide +kernel
theorem dX5_beginWith_89 : decode cX5_beginWith 89 = .ok (.return_, 1) := by decide +kernel
theorem dX5_putLoneHole_0 : decode cX5_putLoneHole 0 = .ok (.aload_n 0, 1) := by decide +kernel
theorem dX5_putLoneHole_1 : decode cX5_putLoneHole 1 = .ok (.getfield 9, 3) := by decide +kernel
theorem dX5_putLoneHole_4 : decode cX5_putLoneHole 4 = .ok (.iconst 0, 1) := by decide +kernel
theorem dX5_putLoneHole_5 : decode cX5_putLoneHole 5 = .ok (.iload_n 1, 1) := by decide +kernel
theorem dX5_putLoneHole_6 : decode cX5_putLoneHole 6 = .ok (.invokestatic 52, 3) := by decide +kernel
theorem dX5_putLoneHole_9 : decode cX5_putLoneHole 9 = .ok (.iastore, 1) := by decide +kernel
theorem dX5_putLoneHole_10 : decode cX5_putLoneHole 10 = .ok (.return_, 1) := by decide +kernel
theorem dX5_cellsOfHole_0 : decode cX5_cellsOfHole 0 = .ok (.iload_n 1, 1) := by decide +kernel
theorem dX5_cellsOfHole_1 : decode cX5_cellsOfHole 1 = .ok (.ifCond .lt 17, 3) := by decide +kernel
theorem dX5_cellsOfHole_4 : decode cX5_cellsOfHole 4 = .ok (.iload_n 1, 1) := by decide +kernel
theorem dX5_cellsOfHole_5 : decode cX5_cellsOfHole 5 = .ok (.iconst 5, 1) := by decide +kernel
theorem dX5_cellsOfHole_6 : decode cX5_cellsOfHole 6 = .ok (.if_icmp .ge 12, 3) := by decide +kernel
theorem dX5_cellsOfHole_9 : decode cX5_cellsOfHole 9 = .ok (.aload_n 0, 1) := by decide +kernel
theorem dX5_cellsOfHole_10 : decode cX5_cellsOfHole 10 = .ok (.getfield 9, 3) := by decide +kernel
theorem dX5_cellsOfHole_13 : decode cX5_cellsOfHole 13 = .ok (.iload_n 1, 1) := by decide +kernel
theorem dX5_cellsOfHole_14 : decode cX5_cellsOfHole 14 = .ok (.iaload, 1) := by decide +kernel
theorem dX5_cellsOfHole_15 : decode cX5_cellsOfHole 15 = .ok (.goto 4, 3) := by decide +kernel
theorem dX5_cellsOfHole_18 : decode cX5_cellsOfHole 18 = .ok (.iconst 0, 1) := by decide +kernel
theorem dX5_cellsOfHole_19 : decode cX5_cellsOfHole 19 = .ok (.ireturn, 1) := by decide +kernel
theorem dX5_sizeOfHole_0 : decode cX5_sizeOfHole 0 = .ok (.aload_n 0, 1) := by decide +kernel
theorem dX5_sizeOfHole_1 : decode cX5_sizeOfHole 1 = .ok (.iload_n 1, 1) := by decide +kernel
theorem dX5_sizeOfHole_2 : decode cX5_sizeOfHole 2 = .ok (.invokevirtual 61, 3) := by decide +kernel
theorem dX5_sizeOfHole_5 : decode cX5_sizeOfHole 5 = .ok (.invokestatic 64, 3) := by decide +kernel
theorem dX5_sizeOfHole_8 : decode cX5_sizeOfHole 8 = .ok (.ireturn, 1) := by decide +kernel
theorem dX5_isGone_0 : decode cX5_isGone 0 = .ok (.aload_n 0, 1) := by decide +kernel
theorem dX5_isGone_1 : decode cX5_isGone 1 = .ok (.iload_n 1, 1) := by decide +kernel
theorem dX5_isGone_2 : decode cX5_isGone 2 = .ok (.invokevirtual 61, 3) := by decide +kernel
theorem dX5_isGone_5 : decode cX5_isGone 5 = .ok (.ifCond .ne 7, 3) := by decide +kernel
theorem dX5_isGone_8 : decode cX5_isGone 8 = .ok (.iconst 1, 1) := by decide +kernel
theorem dX5_isGone_9 : decode cX5_isGone 9 = .ok (.goto 4, 3) := by decide +kernel
theorem dX5_isGone_12 : decode cX5_isGone 12 = .ok (.iconst 0, 1) := by decide +kernel
theorem dX5_isGone_13 : decode cX5_isGone 13 = .ok (.ireturn, 1) := by decide +kernel
theorem dX5_holesLeft_0 : decode cX5_holesLeft 0 = .ok (.iconst 0, 1) := by decide +kernel
theorem dX5_holesLeft_1 : decode cX5_holesLeft 1 = .ok (.istore_n 1, 1) := by decide +kernel
theorem dX5_holesLeft_2 : decode cX5_holesLeft 2 = .ok (.iconst 0, 1) := by decide +kernel
theorem dX5_holesLeft_3 : decode cX5_holesLeft 3 = .ok (.istore_n 2, 1) := by decide +kernel
theorem dX5_holesLeft_4 : decode cX5_holesLeft 4 = .ok (.iload_n 2, 1) := by decide +kernel
theorem dX5_holesLeft_5 : decode cX5_holesLeft 5 = .ok (.iconst 5, 1) := by decide +kernel
theorem dX5_holesLeft_6 : decode cX5_holesLeft 6 = .ok (.if_icmp .ge 24, 3) := by decide +kernel
theorem dX5_holesLeft_9 : decode cX5_holesLeft 9 = .ok (.aload_n 0, 1) := by decide +kernel
theorem dX5_holesLeft_10 : decode cX5_holesLeft 10 = .ok (.getfield 9, 3) := by decide +kernel
theorem dX5_holesLeft_13 : decode cX5_holesLeft 13 = .ok (.iload_n 2, 1) := by decide +kernel
theorem dX5_holesLeft_14 : decode cX5_holesLeft 14 = .ok (.iaload, 1) := by decide +kernel
theorem dX5_holesLeft_15 : decode cX5_holesLeft 15 = .ok (.ifCond .eq 9, 3) := by decide +kernel
theorem dX5_holesLeft_18 : decode cX5_holesLeft 18 = .ok (.iload_n 1, 1) := by decide +kernel
theorem dX5_holesLeft_19 : decode cX5_holesLeft 19 = .ok (.iconst 1, 1) := by decide +kernel
theorem dX5_holesLeft_20 : decode cX5_holesLeft 20 = .ok (.iload_n 2, 1) := by decide +kernel
theorem dX5_holesLeft_21 : decode cX5_holesLeft 21 = .ok (.ishl, 1) := by decide +kernel
theorem dX5_holesLeft_22 : decode cX5_holesLeft 22 = .ok (.ior, 1) := by decide +kernel
theorem dX5_holesLeft_23 : decode cX5_holesLeft 23 = .ok (.istore_n 1, 1) := by decide +kernel
theorem dX5_holesLeft_24 : decode cX5_holesLeft 24 = .ok (.iinc 2 1, 3) := by decide +kernel
theorem dX5_holesLeft_27 : decode cX5_holesLeft 27 = .ok (.goto (-23), 3) := by decide +kernel
theorem dX5_holesLeft_30 : decode cX5_holesLeft 30 = .ok (.iload_n 1, 1) := by decide +kernel
theorem dX5_holesLeft_31 : decode cX5_holesLeft 31 = .ok (.ireturn, 1) := by decide +kernel
theorem dX5_holesOf_0 : decode cX5_holesOf 0 = .ok (.iconst 0, 1) := by decide +kernel
theorem dX5_holesOf_1 : decode cX5_holesOf 1 = .ok (.istore_n 2, 1) := by decide +kernel
theorem dX5_holesOf_2 : decode cX5_holesOf 2 = .ok (.iconst 0, 1) := by decide +kernel
theorem dX5_holesOf_3 : decode cX5_holesOf 3 = .ok (.istore_n 3, 1) := by decide +kernel
theorem dX5_holesOf_4 : decode cX5_holesOf 4 = .ok (.iload_n 3, 1) := by decide +kernel
theorem dX5_holesOf_5 : decode cX5_holesOf 5 = .ok (.iconst 5, 1) := by decide +kernel
theorem dX5_holesOf_6 : decode cX5_holesOf 6 = .ok (.if_icmp .ge 25, 3) := by decide +kernel
theorem dX5_holesOf_9 : decode cX5_holesOf 9 = .ok (.aload_n 0, 1) := by decide +kernel
theorem dX5_holesOf_10 : decode cX5_holesOf 10 = .ok (.getfield 15, 3) := by decide +kernel
theorem dX5_holesOf_13 : decode cX5_holesOf 13 = .ok (.iload_n 3, 1) := by decide +kernel
theorem dX5_holesOf_14 : decode cX5_holesOf 14 = .ok (.iaload, 1) := by decide +kernel
theorem dX5_holesOf_15 : decode cX5_holesOf 15 = .ok (.iload_n 1, 1) := by decide +kernel
theorem dX5_holesOf_16 : decode cX5_holesOf 16 = .ok (.if_icmp .ne 9, 3) := by decide +kernel
theorem dX5_holesOf_19 : decode cX5_holesOf 19 = .ok (.iload_n 2, 1) := by decide +kernel
theorem dX5_holesOf_20 : decode cX5_holesOf 20 = .ok (.iconst 1, 1) := by decide +kernel
theorem dX5_holesOf_21 : decode cX5_holesOf 21 = .ok (.iload_n 3, 1) := by decide +kernel
theorem dX5_holesOf_22 : decode cX5_holesOf 22 = .ok (.ishl, 1) := by decide +kernel
theorem dX5_holesOf_23 : decode cX5_holesOf 23 = .ok (.ior, 1) := by decide +kernel
theorem dX5_holesOf_24 : decode cX5_holesOf 24 = .ok (.istore_n 2, 1) := by decide +kernel
theorem dX5_holesOf_25 : decode cX5_holesOf 25 = .ok (.iinc 3 1, 3) := by decide +kernel
theorem dX5_holesOf_28 : decode cX5_holesOf 28 = .ok (.goto (-24), 3) := by decide +kernel
theorem dX5_holesOf_31 : decode cX5_holesOf 31 = .ok (.iload_n 2, 1) := by decide +kernel
theorem dX5_holesOf_32 : decode cX5_holesOf 32 = .ok (.ireturn, 1) := by decide +kernel
theorem dX5_cellsOfHoles_0 : decode cX5_cellsOfHoles 0 = .ok (.iconst 0, 1) := by decide +kernel
theorem dX5_cellsOfHoles_1 : decode cX5_cellsOfHoles 1 = .ok (.istore_n 2, 1) := by decide +kernel
theorem dX5_cellsOfHoles_2 : decode cX5_cellsOfHoles 2 = .ok (.iconst 0, 1) := by decide +kernel
theorem dX5_cellsOfHoles_3 : decode cX5_cellsOfHoles 3 = .ok (.istore_n 3, 1) := by decide +kernel
theorem dX5_cellsOfHoles_4 : decode cX5_cellsOfHoles 4 = .ok (.iload_n 3, 1) := by decide +kernel
theorem dX5_cellsOfHoles_5 : decode cX5_cellsOfHoles 5 = .ok (.iconst 5, 1) := by decide +kernel
theorem dX5_cellsOfHoles_6 : decode cX5_cellsOfHoles 6 = .ok (.if_icmp .ge 26, 3) := by decide +kernel
theorem dX5_cellsOfHoles_9 : decode cX5_cellsOfHoles 9 = .ok (.iload_n 1, 1) := by decide +kernel
theorem dX5_cellsOfHoles_10 : decode cX5_cellsOfHoles 10 = .ok (.iconst 1, 1) := by decide +kernel
theorem dX5_cellsOfHoles_11 : decode cX5_cellsOfHoles 11 = .ok (.iload_n 3, 1) := by decide +kernel
theorem dX5_cellsOfHoles_12 : decode cX5_cellsOfHoles 12 = .ok (.ishl, 1) := by decide +kernel
theorem dX5_cellsOfHoles_13 : decode cX5_cellsOfHoles 13 = .ok (.iand, 1) := by decide +kernel
theorem dX5_cellsOfHoles_14 : decode cX5_cellsOfHoles 14 = .ok (.ifCond .eq 12, 3) := by decide +kernel
theorem dX5_cellsOfHoles_17 : decode cX5_cellsOfHoles 17 = .ok (.iload_n 2, 1) := by decide +kernel
theorem dX5_cellsOfHoles_18 : decode cX5_cellsOfHoles 18 = .ok (.aload_n 0, 1) := by decide +kernel
theorem dX5_cellsOfHoles_19 : decode cX5_cellsOfHoles 19 = .ok (.getfield 9, 3) := by decide +kernel
theorem dX5_cellsOfHoles_22 : decode cX5_cellsOfHoles 22 = .ok (.iload_n 3, 1) := by decide +kernel
theorem dX5_cellsOfHoles_23 : decode cX5_cellsOfHoles 23 = .ok (.iaload, 1) := by decide +kernel
theorem dX5_cellsOfHoles_24 : decode cX5_cellsOfHoles 24 = .ok (.ior, 1) := by decide +kernel
theorem dX5_cellsOfHoles_25 : decode cX5_cellsOfHoles 25 = .ok (.istore_n 2, 1) := by decide +kernel
theorem dX5_cellsOfHoles_26 : decode cX5_cellsOfHoles 26 = .ok (.iinc 3 1, 3) := by decide +kernel
theorem dX5_cellsOfHoles_29 : decode cX5_cellsOfHoles 29 = .ok (.goto (-25), 3) := by decide +kernel
theorem dX5_cellsOfHoles_32 : decode cX5_cellsOfHoles 32 = .ok (.iload_n 2, 1) := by decide +kernel
theorem dX5_cellsOfHoles_33 : decode cX5_cellsOfHoles 33 = .ok (.ireturn, 1) := by decide +kernel
theorem dX5_holeCells_0 : decode cX5_holeCells 0 = .ok (.iconst 0, 1) := by decide +kernel
theorem dX5_holeCells_1 : decode cX5_holeCells 1 = .ok (.istore_n 1, 1) := by decide +kernel
theorem dX5_holeCells_2 : decode cX5_holeCells 2 = .ok (.iconst 0, 1) := by decide +kernel
theorem dX5_holeCells_3 : decode cX5_holeCells 3 = .ok (.istore_n 2, 1) := by decide +kernel
theorem dX5_holeCells_4 : decode cX5_holeCells 4 = .ok (.iload_n 2, 1) := by decide +kernel
theorem dX5_holeCells_5 : decode cX5_holeCells 5 = .ok (.iconst 5, 1) := by decide +kernel
theorem dX5_holeCells_6 : decode cX5_holeCells 6 = .ok (.if_icmp .ge 18, 3) := by decide +kernel
theorem dX5_holeCells_9 : decode cX5_holeCells 9 = .ok (.iload_n 1, 1) := by decide +kernel
theorem dX5_holeCells_10 : decode cX5_holeCells 10 = .ok (.aload_n 0, 1) := by decide +kernel
theorem dX5_holeCells_11 : decode cX5_holeCells 11 = .ok (.getfield 9, 3) := by decide +kernel
theorem dX5_holeCells_14 : decode cX5_holeCells 14 = .ok (.iload_n 2, 1) := by decide +kernel
theorem dX5_holeCells_15 : decode cX5_holeCells 15 = .ok (.iaload, 1) := by decide +kernel
theorem dX5_holeCells_16 : decode cX5_holeCells 16 = .ok (.ior, 1) := by decide +kernel
theorem dX5_holeCells_17 : decode cX5_holeCells 17 = .ok (.istore_n 1, 1) := by decide +kernel
theorem dX5_holeCells_18 : decode cX5_holeCells 18 = .ok (.iinc 2 1, 3) := by decide +kernel
theorem dX5_holeCells_21 : decode cX5_holeCells 21 = .ok (.goto (-17), 3) := by decide +kernel
theorem dX5_holeCells_24 : decode cX5_holeCells 24 = .ok (.iload_n 1, 1) := by decide +kernel
theorem dX5_holeCells_25 : decode cX5_holeCells 25 = .ok (.ireturn, 1) := by decide +kernel
theorem dX5_holeCellsOf_0 : decode cX5_holeCellsOf 0 = .ok (.aload_n 0, 1) := by decide +kernel
theorem dX5_holeCellsOf_1 : decode cX5_holeCellsOf 1 = .ok (.aload_n 0, 1) := by decide +kernel
theorem dX5_holeCellsOf_2 : decode cX5_holeCellsOf 2 = .ok (.iload_n 1, 1) := by decide +kernel
theorem dX5_holeCellsOf_3 : decode cX5_holeCellsOf 3 = .ok (.invokevirtual 69, 3) := by decide +kernel
theorem dX5_holeCellsOf_6 : decode cX5_holeCellsOf 6 = .ok (.invokevirtual 72, 3) := by decide +kernel
theorem dX5_holeCellsOf_9 : decode cX5_holeCellsOf 9 = .ok (.invokestatic 64, 3) := by decide +kernel
theorem dX5_holeCellsOf_12 : decode cX5_holeCellsOf 12 = .ok (.ireturn, 1) := by decide +kernel
theorem dX5_openCells_0 : decode cX5_openCells 0 = .ok (.aload_n 0, 1) := by decide +kernel
theorem dX5_openCells_1 : decode cX5_openCells 1 = .ok (.invokevirtual 75, 3) := by decide +kernel
theorem dX5_openCells_4 : decode cX5_openCells 4 = .ok (.aload_n 0, 1) := by decide +kernel
theorem dX5_openCells_5 : decode cX5_openCells 5 = .ok (.getfield 24, 3) := by decide +kernel
theorem dX5_openCells_8 : decode cX5_openCells 8 = .ok (.ior, 1) := by decide +kernel
theorem dX5_openCells_9 : decode cX5_openCells 9 = .ok (.ireturn, 1) := by decide +kernel
theorem dX5_openBut_0 : decode cX5_openBut 0 = .ok (.aload_n 0, 1) := by decide +kernel
theorem dX5_openBut_1 : decode cX5_openBut 1 = .ok (.iload_n 1, 1) := by decide +kernel
theorem dX5_openBut_2 : decode cX5_openBut 2 = .ok (.iconst (-1), 1) := by decide +kernel
theorem dX5_openBut_3 : decode cX5_openBut 3 = .ok (.ixor, 1) := by decide +kernel
theorem dX5_openBut_4 : decode cX5_openBut 4 = .ok (.invokevirtual 72, 3) := by decide +kernel
theorem dX5_openBut_7 : decode cX5_openBut 7 = .ok (.aload_n 0, 1) := by decide +kernel
theorem dX5_openBut_8 : decode cX5_openBut 8 = .ok (.getfield 24, 3) := by decide +kernel
theorem dX5_openBut_11 : decode cX5_openBut 11 = .ok (.ior, 1) := by decide +kernel
theorem dX5_openBut_12 : decode cX5_openBut 12 = .ok (.ireturn, 1) := by decide +kernel
theorem dX5_pasteCells_0 : decode cX5_pasteCells 0 = .ok (.ldc 79, 2) := by decide +kernel
theorem dX5_pasteCells_2 : decode cX5_pasteCells 2 = .ok (.aload_n 0, 1) := by decide +kernel
theorem dX5_pasteCells_3 : decode cX5_pasteCells 3 = .ok (.invokevirtual 75, 3) := by decide +kernel
theorem dX5_pasteCells_6 : decode cX5_pasteCells 6 = .ok (.aload_n 0, 1) := by decide +kernel
theorem dX5_pasteCells_7 : decode cX5_pasteCells 7 = .ok (.getfield 24, 3) := by decide +kernel
theorem dX5_pasteCells_10 : decode cX5_pasteCells 10 = .ok (.ior, 1) := by decide +kernel
theorem dX5_pasteCells_11 : decode cX5_pasteCells 11 = .ok (.iconst (-1), 1) := by decide +kernel
theorem dX5_pasteCells_12 : decode cX5_pasteCells 12 = .ok (.ixor, 1) := by decide +kernel
theorem dX5_pasteCells_13 : decode cX5_pasteCells 13 = .ok (.iand, 1) := by decide +kernel
theorem dX5_pasteCells_14 : decode cX5_pasteCells 14 = .ok (.ireturn, 1) := by decide +kernel
theorem dX5_softPaste_0 : decode cX5_softPaste 0 = .ok (.ldc 79, 2) := by decide +kernel
theorem dX5_softPaste_2 : decode cX5_softPaste 2 = .ok (.aload_n 0, 1) := by decide +kernel
theorem dX5_softPaste_3 : decode cX5_softPaste 3 = .ok (.invokevirtual 75, 3) := by decide +kernel
theorem dX5_softPaste_6 : decode cX5_softPaste 6 = .ok (.aload_n 0, 1) := by decide +kernel
theorem dX5_softPaste_7 : decode cX5_softPaste 7 = .ok (.getfield 24, 3) := by decide +kernel
theorem dX5_softPaste_10 : decode cX5_softPaste 10 = .ok (.ior, 1) := by decide +kernel
theorem dX5_softPaste_11 : decode cX5_softPaste 11 = .ok (.aload_n 1, 1) := by decide +kernel
theorem dX5_softPaste_12 : decode cX5_softPaste 12 = .ok (.getfield 80, 3) := by decide +kernel
theorem dX5_softPaste_15 : decode cX5_softPaste 15 = .ok (.ior, 1) := by decide +kernel
theorem dX5_softPaste_16 : decode cX5_softPaste 16 = .ok (.iconst (-1), 1) := by decide +kernel
theorem dX5_softPaste_17 : decode cX5_softPaste 17 = .ok (.ixor, 1) := by decide +kernel
theorem dX5_softPaste_18 : decode cX5_softPaste 18 = .ok (.iand, 1) := by decide +kernel
theorem dX5_softPaste_19 : decode cX5_softPaste 19 = .ok (.ireturn, 1) := by decide +kernel
theorem dX5_ownedBy_0 : decode cX5_ownedBy 0 = .ok (.aload_n 1, 1) := by decide +kernel
theorem dX5_ownedBy_1 : decode cX5_ownedBy 1 = .ok (.iload_n 2, 1) := by decide +kernel
theorem dX5_ownedBy_2 : decode cX5_ownedBy 2 = .ok (.invokevirtual 83, 3) := by decide +kernel
theorem dX5_ownedBy_5 : decode cX5_ownedBy 5 = .ok (.aload_n 0, 1) := by decide +kernel
theorem dX5_ownedBy_6 : decode cX5_ownedBy 6 = .ok (.invokevirtual 86, 3) := by decide +kernel
theorem dX5_ownedBy_9 : decode cX5_ownedBy 9 = .ok (.iand, 1) := by decide +kernel
theorem dX5_ownedBy_10 : decode cX5_ownedBy 10 = .ok (.istore_n 3, 1) := by decide +kernel
theorem dX5_ownedBy_11 : decode cX5_ownedBy 11 = .ok (.iconst 0, 1) := by decide +kernel
theorem dX5_ownedBy_12 : decode cX5_ownedBy 12 = .ok (.istore 4, 2) := by decide +kernel
theorem dX5_ownedBy_14 : decode cX5_ownedBy 14 = .ok (.iload 4, 2) := by decide +kernel
theorem dX5_ownedBy_16 : decode cX5_ownedBy 16 = .ok (.iconst 5, 1) := by decide +kernel
theorem dX5_ownedBy_17 : decode cX5_ownedBy 17 = .ok (.if_icmp .ge 46, 3) := by decide +kernel
theorem dX5_ownedBy_20 : decode cX5_ownedBy 20 = .ok (.aload_n 0, 1) := by decide +kernel
theorem dX5_ownedBy_21 : decode cX5_ownedBy 21 = .ok (.getfield 15, 3) := by decide +kernel
theorem dX5_ownedBy_24 : decode cX5_ownedBy 24 = .ok (.iload 4, 2) := by decide +kernel
theorem dX5_ownedBy_26 : decode cX5_ownedBy 26 = .ok (.iaload, 1) := by decide +kernel
theorem dX5_ownedBy_27 : decode cX5_ownedBy 27 = .ok (.istore 5, 2) := by decide +kernel
theorem dX5_ownedBy_29 : decode cX5_ownedBy 29 = .ok (.aload_n 1, 1) := by decide +kernel
theorem dX5_ownedBy_30 : decode cX5_ownedBy 30 = .ok (.iload 5, 2) := by decide +kernel
theorem dX5_ownedBy_32 : decode cX5_ownedBy 32 = .ok (.invokevirtual 89, 3) := by decide +kernel
theorem dX5_ownedBy_35 : decode cX5_ownedBy 35 = .ok (.ifCond .eq 22, 3) := by decide +kernel
theorem dX5_ownedBy_38 : decode cX5_ownedBy 38 = .ok (.iload_n 2, 1) := by decide +kernel
theorem dX5_ownedBy_39 : decode cX5_ownedBy 39 = .ok (.iconst 1, 1) := by decide +kernel
theorem dX5_ownedBy_40 : decode cX5_ownedBy 40 = .ok (.iload 5, 2) := by decide +kernel
theorem dX5_ownedBy_42 : decode cX5_ownedBy 42 = .ok (.ishl, 1) := by decide +kernel
theorem dX5_ownedBy_43 : decode cX5_ownedBy 43 = .ok (.iand, 1) := by decide +kernel
theorem dX5_ownedBy_44 : decode cX5_ownedBy 44 = .ok (.ifCond .eq 13, 3) := by decide +kernel
theorem dX5_ownedBy_47 : decode cX5_ownedBy 47 = .ok (.iload_n 3, 1) := by decide +kernel
theorem dX5_ownedBy_48 : decode cX5_ownedBy 48 = .ok (.aload_n 0, 1) := by decide +kernel
theorem dX5_ownedBy_49 : decode cX5_ownedBy 49 = .ok (.getfield 9, 3) := by decide +kernel
theorem dX5_ownedBy_52 : decode cX5_ownedBy 52 = .ok (.iload 4, 2) := by decide +kernel
theorem dX5_ownedBy_54 : decode cX5_ownedBy 54 = .ok (.iaload, 1) := by decide +kernel
theorem dX5_ownedBy_55 : decode cX5_ownedBy 55 = .ok (.ior, 1) := by decide +kernel
theorem dX5_ownedBy_56 : decode cX5_ownedBy 56 = .ok (.istore_n 3, 1) := by decide +kernel
theorem dX5_ownedBy_57 : decode cX5_ownedBy 57 = .ok (.iinc 4 1, 3) := by decide +kernel
theorem dX5_ownedBy_60 : decode cX5_ownedBy 60 = .ok (.goto (-46), 3) := by decide +kernel
theorem dX5_ownedBy_63 : decode cX5_ownedBy 63 = .ok (.iload_n 3, 1) := by decide +kernel
theorem dX5_ownedBy_64 : decode cX5_ownedBy 64 = .ok (.ireturn, 1) := by decide +kernel
theorem dX5_stuffAt_0 : decode cX5_stuffAt 0 = .ok (.iload_n 1, 1) := by decide +kernel
theorem dX5_stuffAt_1 : decode cX5_stuffAt 1 = .ok (.invokestatic 52, 3) := by decide +kernel
theorem dX5_stuffAt_4 : decode cX5_stuffAt 4 = .ok (.istore_n 2, 1) := by decide +kernel
theorem dX5_stuffAt_5 : decode cX5_stuffAt 5 = .ok (.aload_n 0, 1) := by decide +kernel
theorem dX5_stuffAt_6 : decode cX5_stuffAt 6 = .ok (.getfield 24, 3) := by decide +kernel
theorem dX5_stuffAt_9 : decode cX5_stuffAt 9 = .ok (.iload_n 2, 1) := by decide +kernel
theorem dX5_stuffAt_10 : decode cX5_stuffAt 10 = .ok (.iand, 1) := by decide +kernel
theorem dX5_stuffAt_11 : decode cX5_stuffAt 11 = .ok (.ifCond .eq 5, 3) := by decide +kernel
theorem dX5_stuffAt_14 : decode cX5_stuffAt 14 = .ok (.iconst 2, 1) := by decide +kernel
theorem dX5_stuffAt_15 : decode cX5_stuffAt 15 = .ok (.ireturn, 1) := by decide +kernel
theorem dX5_stuffAt_16 : decode cX5_stuffAt 16 = .ok (.aload_n 0, 1) := by decide +kernel
theorem dX5_stuffAt_17 : decode cX5_stuffAt 17 = .ok (.invokevirtual 75, 3) := by decide +kernel
theorem dX5_stuffAt_20 : decode cX5_stuffAt 20 = .ok (.iload_n 2, 1) := by decide +kernel
theorem dX5_stuffAt_21 : decode cX5_stuffAt 21 = .ok (.iand, 1) := by decide +kernel
theorem dX5_stuffAt_22 : decode cX5_stuffAt 22 = .ok (.ifCond .eq 7, 3) := by decide +kernel
theorem dX5_stuffAt_25 : decode cX5_stuffAt 25 = .ok (.iconst 1, 1) := by decide +kernel
theorem dX5_stuffAt_26 : decode cX5_stuffAt 26 = .ok (.goto 4, 3) := by decide +kernel
theorem dX5_stuffAt_29 : decode cX5_stuffAt 29 = .ok (.iconst 0, 1) := by decide +kernel
theorem dX5_stuffAt_30 : decode cX5_stuffAt 30 = .ok (.ireturn, 1) := by decide +kernel
theorem dX5_holeAt_0 : decode cX5_holeAt 0 = .ok (.iload_n 1, 1) := by decide +kernel
theorem dX5_holeAt_1 : decode cX5_holeAt 1 = .ok (.invokestatic 52, 3) := by decide +kernel
theorem dX5_holeAt_4 : decode cX5_holeAt 4 = .ok (.istore_n 2, 1) := by decide +kernel
theorem dX5_holeAt_5 : decode cX5_holeAt 5 = .ok (.iconst 0, 1) := by decide +kernel
theorem dX5_holeAt_6 : decode cX5_holeAt 6 = .ok (.istore_n 3, 1) := by decide +kernel
theorem dX5_holeAt_7 : decode cX5_holeAt 7 = .ok (.iload_n 3, 1) := by decide +kernel
theorem dX5_holeAt_8 : decode cX5_holeAt 8 = .ok (.iconst 5, 1) := by decide +kernel
theorem dX5_holeAt_9 : decode cX5_holeAt 9 = .ok (.if_icmp .ge 22, 3) := by decide +kernel
theorem dX5_holeAt_12 : decode cX5_holeAt 12 = .ok (.aload_n 0, 1) := by decide +kernel
theorem dX5_holeAt_13 : decode cX5_holeAt 13 = .ok (.getfield 9, 3) := by decide +kernel
theorem dX5_holeAt_16 : decode cX5_holeAt 16 = .ok (.iload_n 3, 1) := by decide +kernel
theorem dX5_holeAt_17 : decode cX5_holeAt 17 = .ok (.iaload, 1) := by decide +kernel
theorem dX5_holeAt_18 : decode cX5_holeAt 18 = .ok (.iload_n 2, 1) := by decide +kernel
theorem dX5_holeAt_19 : decode cX5_holeAt 19 = .ok (.iand, 1) := by decide +kernel
theorem dX5_holeAt_20 : decode cX5_holeAt 20 = .ok (.ifCond .eq 5, 3) := by decide +kernel
theorem dX5_holeAt_23 : decode cX5_holeAt 23 = .ok (.iload_n 3, 1) := by decide +kernel
theorem dX5_holeAt_24 : decode cX5_holeAt 24 = .ok (.ireturn, 1) := by decide +kernel
theorem dX5_holeAt_25 : decode cX5_holeAt 25 = .ok (.iinc 3 1, 3) := by decide +kernel
theorem dX5_holeAt_28 : decode cX5_holeAt 28 = .ok (.goto (-21), 3) := by decide +kernel
theorem dX5_holeAt_31 : decode cX5_holeAt 31 = .ok (.bipush (-9), 2) := by decide +kernel
theorem dX5_holeAt_33 : decode cX5_holeAt 33 = .ok (.ireturn, 1) := by decide +kernel
theorem dX5_ownerAt_0 : decode cX5_ownerAt 0 = .ok (.aload_n 0, 1) := by decide +kernel
theorem dX5_ownerAt_1 : decode cX5_ownerAt 1 = .ok (.iload_n 2, 1) := by decide +kernel
theorem dX5_ownerAt_2 : decode cX5_ownerAt 2 = .ok (.invokevirtual 92, 3) := by decide +kernel
theorem dX5_ownerAt_5 : decode cX5_ownerAt 5 = .ok (.istore_n 3, 1) := by decide +kernel
theorem dX5_ownerAt_6 : decode cX5_ownerAt 6 = .ok (.iload_n 3, 1) := by decide +kernel
theorem dX5_ownerAt_7 : decode cX5_ownerAt 7 = .ok (.bipush (-9), 2) := by decide +kernel
theorem dX5_ownerAt_9 : decode cX5_ownerAt 9 = .ok (.if_icmp .eq 12, 3) := by decide +kernel
theorem dX5_ownerAt_12 : decode cX5_ownerAt 12 = .ok (.aload_n 0, 1) := by decide +kernel
theorem dX5_ownerAt_13 : decode cX5_ownerAt 13 = .ok (.getfield 15, 3) := by decide +kernel
theorem dX5_ownerAt_16 : decode cX5_ownerAt 16 = .ok (.iload_n 3, 1) := by decide +kernel
theorem dX5_ownerAt_17 : decode cX5_ownerAt 17 = .ok (.invokestatic 95, 3) := by decide +kernel
theorem dX5_ownerAt_20 : decode cX5_ownerAt 20 = .ok (.ireturn, 1) := by decide +kernel
theorem dX5_ownerAt_21 : decode cX5_ownerAt 21 = .ok (.aload_n 0, 1) := by decide +kernel
theorem dX5_ownerAt_22 : decode cX5_ownerAt 22 = .ok (.invokevirtual 86, 3) := by decide +kernel
theorem dX5_ownerAt_25 : decode cX5_ownerAt 25 = .ok (.iload_n 2, 1) := by decide +kernel
theorem dX5_ownerAt_26 : decode cX5_ownerAt 26 = .ok (.invokestatic 52, 3) := by decide +kernel
theorem dX5_ownerAt_29 : decode cX5_ownerAt 29 = .ok (.iand, 1) := by decide +kernel
theorem dX5_ownerAt_30 : decode cX5_ownerAt 30 = .ok (.ifCond .eq 7, 3) := by decide +kernel
theorem dX5_ownerAt_33 : decode cX5_ownerAt 33 = .ok (.iconst 1, 1) := by decide +kernel
theorem dX5_ownerAt_34 : decode cX5_ownerAt 34 = .ok (.goto 4, 3) := by decide +kernel
theorem dX5_ownerAt_37 : decode cX5_ownerAt 37 = .ok (.iconst 0, 1) := by decide +kernel
theorem dX5_ownerAt_38 : decode cX5_ownerAt 38 = .ok (.istore 4, 2) := by decide +kernel
theorem dX5_ownerAt_40 : decode cX5_ownerAt 40 = .ok (.iload 4, 2) := by decide +kernel
theorem dX5_ownerAt_42 : decode cX5_ownerAt 42 = .ok (.ifCond .eq 16, 3) := by decide +kernel
theorem dX5_ownerAt_45 : decode cX5_ownerAt 45 = .ok (.aload_n 1, 1) := by decide +kernel
theorem dX5_ownerAt_46 : decode cX5_ownerAt 46 = .ok (.getfield 101, 3) := by decide +kernel
theorem dX5_ownerAt_49 : decode cX5_ownerAt 49 = .ok (.iload_n 2, 1) := by decide +kernel
theorem dX5_ownerAt_50 : decode cX5_ownerAt 50 = .ok (.iconst 5, 1) := by decide +kernel
theorem dX5_ownerAt_51 : decode cX5_ownerAt 51 = .ok (.idiv, 1) := by decide +kernel
theorem dX5_ownerAt_52 : decode cX5_ownerAt 52 = .ok (.invokestatic 95, 3) := by decide +kernel
theorem dX5_ownerAt_55 : decode cX5_ownerAt 55 = .ok (.goto 5, 3) := by decide +kernel
theorem dX5_ownerAt_58 : decode cX5_ownerAt 58 = .ok (.bipush (-9), 2) := by decide +kernel
theorem dX5_ownerAt_60 : decode cX5_ownerAt 60 = .ok (.ireturn, 1) := by decide +kernel
theorem dX5_pay_0 : decode cX5_pay 0 = .ok (.iload_n 1, 1) := by decide +kernel
theorem dX5_pay_1 : decode cX5_pay 1 = .ok (.iload_n 2, 1) := by decide +kernel
theorem dX5_pay_2 : decode cX5_pay 2 = .ok (.if_icmp .eq 22, 3) := by decide +kernel
theorem dX5_pay_5 : decode cX5_pay 5 = .ok (.aload_n 0, 1) := by decide +kernel
theorem dX5_pay_6 : decode cX5_pay 6 = .ok (.getfield 21, 3) := by decide +kernel
theorem dX5_pay_9 : decode cX5_pay 9 = .ok (.iload_n 1, 1) := by decide +kernel
theorem dX5_pay_10 : decode cX5_pay 10 = .ok (.iload_n 3, 1) := by decide +kernel
theorem dX5_pay_11 : decode cX5_pay 11 = .ok (.ineg, 1) := by decide +kernel
theorem dX5_pay_12 : decode cX5_pay 12 = .ok (.invokestatic 104, 3) := by decide +kernel
theorem dX5_pay_15 : decode cX5_pay 15 = .ok (.aload_n 0, 1) := by decide +kernel
theorem dX5_pay_16 : decode cX5_pay 16 = .ok (.getfield 21, 3) := by decide +kernel
theorem dX5_pay_19 : decode cX5_pay 19 = .ok (.iload_n 2, 1) := by decide +kernel
theorem dX5_pay_20 : decode cX5_pay 20 = .ok (.iload_n 3, 1) := by decide +kernel
theorem dX5_pay_21 : decode cX5_pay 21 = .ok (.invokestatic 104, 3) := by decide +kernel
theorem dX5_pay_24 : decode cX5_pay 24 = .ok (.return_, 1) := by decide +kernel
theorem dX5_takeLeast_0 : decode cX5_takeLeast 0 = .ok (.aload_n 0, 1) := by decide +kernel
theorem dX5_takeLeast_1 : decode cX5_takeLeast 1 = .ok (.iload_n 2, 1) := by decide +kernel
theorem dX5_takeLeast_2 : decode cX5_takeLeast 2 = .ok (.invokevirtual 61, 3) := by decide +kernel
theorem dX5_takeLeast_5 : decode cX5_takeLeast 5 = .ok (.istore_n 3, 1) := by decide +kernel
theorem dX5_takeLeast_6 : decode cX5_takeLeast 6 = .ok (.aload_n 1, 1) := by decide +kernel
theorem dX5_takeLeast_7 : decode cX5_takeLeast 7 = .ok (.getfield 122, 3) := by decide +kernel
theorem dX5_takeLeast_10 : decode cX5_takeLeast 10 = .ok (.iload_n 2, 1) := by decide +kernel
theorem dX5_takeLeast_11 : decode cX5_takeLeast 11 = .ok (.invokestatic 95, 3) := by decide +kernel
theorem dX5_takeLeast_14 : decode cX5_takeLeast 14 = .ok (.iconst 3, 1) := by decide +kernel
theorem dX5_takeLeast_15 : decode cX5_takeLeast 15 = .ok (.if_icmp .ne 7, 3) := by decide +kernel
theorem dX5_takeLeast_18 : decode cX5_takeLeast 18 = .ok (.iconst 1, 1) := by decide +kernel
theorem dX5_takeLeast_19 : decode cX5_takeLeast 19 = .ok (.goto 4, 3) := by decide +kernel
theorem dX5_takeLeast_22 : decode cX5_takeLeast 22 = .ok (.iconst 0, 1) := by decide +kernel
theorem dX5_takeLeast_23 : decode cX5_takeLeast 23 = .ok (.istore 4, 2) := by decide +kernel
theorem dX5_takeLeast_25 : decode cX5_takeLeast 25 = .ok (.iload 4, 2) := by decide +kernel
theorem dX5_takeLeast_27 : decode cX5_takeLeast 27 = .ok (.ifCond .eq 10, 3) := by decide +kernel
theorem dX5_takeLeast_30 : decode cX5_takeLeast 30 = .ok (.iload_n 3, 1) := by decide +kernel
theorem dX5_takeLeast_31 : decode cX5_takeLeast 31 = .ok (.invokestatic 125, 3) := by decide +kernel
theorem dX5_takeLeast_34 : decode cX5_takeLeast 34 = .ok (.goto 7, 3) := by decide +kernel
theorem dX5_takeLeast_37 : decode cX5_takeLeast 37 = .ok (.iload_n 3, 1) := by decide +kernel
theorem dX5_takeLeast_38 : decode cX5_takeLeast 38 = .ok (.invokestatic 128, 3) := by decide +kernel
theorem dX5_takeLeast_41 : decode cX5_takeLeast 41 = .ok (.istore 5, 2) := by decide +kernel
theorem dX5_takeLeast_43 : decode cX5_takeLeast 43 = .ok (.iload 5, 2) := by decide +kernel
theorem dX5_takeLeast_45 : decode cX5_takeLeast 45 = .ok (.aload_n 0, 1) := by decide +kernel
theorem dX5_takeLeast_46 : decode cX5_takeLeast 46 = .ok (.aload_n 1, 1) := by decide +kernel
theorem dX5_takeLeast_47 : decode cX5_takeLeast 47 = .ok (.invokevirtual 131, 3) := by decide +kernel
theorem dX5_takeLeast_50 : decode cX5_takeLeast 50 = .ok (.iand, 1) := by decide +kernel
theorem dX5_takeLeast_51 : decode cX5_takeLeast 51 = .ok (.invokestatic 135, 3) := by decide +kernel
theorem dX5_takeLeast_54 : decode cX5_takeLeast 54 = .ok (.istore 6, 2) := by decide +kernel
theorem dX5_takeLeast_56 : decode cX5_takeLeast 56 = .ok (.iload 6, 2) := by decide +kernel
theorem dX5_takeLeast_58 : decode cX5_takeLeast 58 = .ok (.ifCond .ne 4, 3) := by decide +kernel
theorem dX5_takeLeast_61 : decode cX5_takeLeast 61 = .ok (.return_, 1) := by decide +kernel
theorem dX5_takeLeast_62 : decode cX5_takeLeast 62 = .ok (.iload 6, 2) := by decide +kernel
theorem dX5_takeLeast_64 : decode cX5_takeLeast 64 = .ok (.iconst 1, 1) := by decide +kernel
theorem dX5_takeLeast_65 : decode cX5_takeLeast 65 = .ok (.isub, 1) := by decide +kernel
theorem dX5_takeLeast_66 : decode cX5_takeLeast 66 = .ok (.invokestatic 64, 3) := by decide +kernel
theorem dX5_takeLeast_69 : decode cX5_takeLeast 69 = .ok (.istore 7, 2) := by decide +kernel
theorem dX5_takeLeast_71 : decode cX5_takeLeast 71 = .ok (.aload_n 0, 1) := by decide +kernel
theorem dX5_takeLeast_72 : decode cX5_takeLeast 72 = .ok (.aload_n 0, 1) := by decide +kernel
theorem dX5_takeLeast_73 : decode cX5_takeLeast 73 = .ok (.getfield 15, 3) := by decide +kernel
theorem dX5_takeLeast_76 : decode cX5_takeLeast 76 = .ok (.iload_n 2, 1) := by decide +kernel
theorem dX5_takeLeast_77 : decode cX5_takeLeast 77 = .ok (.invokestatic 95, 3) := by decide +kernel
theorem dX5_takeLeast_80 : decode cX5_takeLeast 80 = .ok (.aload_n 1, 1) := by decide +kernel
theorem dX5_takeLeast_81 : decode cX5_takeLeast 81 = .ok (.getfield 101, 3) := by decide +kernel
theorem dX5_takeLeast_84 : decode cX5_takeLeast 84 = .ok (.iload 7, 2) := by decide +kernel
theorem dX5_takeLeast_86 : decode cX5_takeLeast 86 = .ok (.iconst 5, 1) := by decide +kernel
theorem dX5_takeLeast_87 : decode cX5_takeLeast 87 = .ok (.idiv, 1) := by decide +kernel
theorem dX5_takeLeast_88 : decode cX5_takeLeast 88 = .ok (.invokestatic 95, 3) := by decide +kernel
theorem dX5_takeLeast_91 : decode cX5_takeLeast 91 = .ok (.iconst 1, 1) := by decide +kernel
theorem dX5_takeLeast_92 : decode cX5_takeLeast 92 = .ok (.invokevirtual 138, 3) := by decide +kernel
theorem dX5_takeLeast_95 : decode cX5_takeLeast 95 = .ok (.aload_n 0, 1) := by decide +kernel
theorem dX5_takeLeast_96 : decode cX5_takeLeast 96 = .ok (.getfield 9, 3) := by decide +kernel
theorem dX5_takeLeast_99 : decode cX5_takeLeast 99 = .ok (.iload_n 2, 1) := by decide +kernel
theorem dX5_takeLeast_100 : decode cX5_takeLeast 100 = .ok (.iload_n 3, 1) := by decide +kernel
theorem dX5_takeLeast_101 : decode cX5_takeLeast 101 = .ok (.iload 6, 2) := by decide +kernel
theorem dX5_takeLeast_103 : decode cX5_takeLeast 103 = .ok (.ior, 1) := by decide +kernel
theorem dX5_takeLeast_104 : decode cX5_takeLeast 104 = .ok (.invokestatic 142, 3) := by decide +kernel
theorem dX5_takeLeast_107 : decode cX5_takeLeast 107 = .ok (.return_, 1) := by decide +kernel
theorem dX5_endOwning_0 : decode cX5_endOwning 0 = .ok (.aload_n 0, 1) := by decide +kernel
theorem dX5_endOwning_1 : decode cX5_endOwning 1 = .ok (.getfield 15, 3) := by decide +kernel
theorem dX5_endOwning_4 : decode cX5_endOwning 4 = .ok (.iload_n 1, 1) := by decide +kernel
theorem dX5_endOwning_5 : decode cX5_endOwning 5 = .ok (.bipush (-9), 2) := by decide +kernel
theorem dX5_endOwning_7 : decode cX5_endOwning 7 = .ok (.invokestatic 142, 3) := by decide +kernel
theorem dX5_endOwning_10 : decode cX5_endOwning 10 = .ok (.aload_n 0, 1) := by decide +kernel
theorem dX5_endOwning_11 : decode cX5_endOwning 11 = .ok (.getfield 18, 3) := by decide +kernel
theorem dX5_endOwning_14 : decode cX5_endOwning 14 = .ok (.iload_n 1, 1) := by decide +kernel
theorem dX5_endOwning_15 : decode cX5_endOwning 15 = .ok (.bipush (-9), 2) := by decide +kernel
theorem dX5_endOwning_17 : decode cX5_endOwning 17 = .ok (.invokestatic 142, 3) := by decide +kernel
theorem dX5_endOwning_20 : decode cX5_endOwning 20 = .ok (.return_, 1) := by decide +kernel
theorem dX5_joinPair_0 : decode cX5_joinPair 0 = .ok (.aload_n 0, 1) := by decide +kernel
theorem dX5_joinPair_1 : decode cX5_joinPair 1 = .ok (.iload_n 2, 1) := by decide +kernel
theorem dX5_joinPair_2 : decode cX5_joinPair 2 = .ok (.invokevirtual 149, 3) := by decide +kernel
theorem dX5_joinPair_5 : decode cX5_joinPair 5 = .ok (.aload_n 0, 1) := by decide +kernel
theorem dX5_joinPair_6 : decode cX5_joinPair 6 = .ok (.iload_n 1, 1) := by decide +kernel
theorem dX5_joinPair_7 : decode cX5_joinPair 7 = .ok (.invokevirtual 149, 3) := by decide +kernel
theorem dX5_joinPair_10 : decode cX5_joinPair 10 = .ok (.if_icmp .le 7, 3) := by decide +kernel
theorem dX5_joinPair_13 : decode cX5_joinPair 13 = .ok (.iconst 1, 1) := by decide +kernel
theorem dX5_joinPair_14 : decode cX5_joinPair 14 = .ok (.goto 4, 3) := by decide +kernel
theorem dX5_joinPair_17 : decode cX5_joinPair 17 = .ok (.iconst 0, 1) := by decide +kernel
theorem dX5_joinPair_18 : decode cX5_joinPair 18 = .ok (.istore_n 3, 1) := by decide +kernel
theorem dX5_joinPair_19 : decode cX5_joinPair 19 = .ok (.iload_n 3, 1) := by decide +kernel
theorem dX5_joinPair_20 : decode cX5_joinPair 20 = .ok (.ifCond .eq 7, 3) := by decide +kernel
theorem dX5_joinPair_23 : decode cX5_joinPair 23 = .ok (.iload_n 2, 1) := by decide +kernel
theorem dX5_joinPair_24 : decode cX5_joinPair 24 = .ok (.goto 4, 3) := by decide +kernel
theorem dX5_joinPair_27 : decode cX5_joinPair 27 = .ok (.iload_n 1, 1) := by decide +kernel
theorem dX5_joinPair_28 : decode cX5_joinPair 28 = .ok (.istore 4, 2) := by decide +kernel
theorem dX5_joinPair_30 : decode cX5_joinPair 30 = .ok (.iload_n 3, 1) := by decide +kernel
theorem dX5_joinPair_31 : decode cX5_joinPair 31 = .ok (.ifCond .eq 7, 3) := by decide +kernel
theorem dX5_joinPair_34 : decode cX5_joinPair 34 = .ok (.iload_n 1, 1) := by decide +kernel
theorem dX5_joinPair_35 : decode cX5_joinPair 35 = .ok (.goto 4, 3) := by decide +kernel
theorem dX5_joinPair_38 : decode cX5_joinPair 38 = .ok (.iload_n 2, 1) := by decide +kernel
theorem dX5_joinPair_39 : decode cX5_joinPair 39 = .ok (.istore 5, 2) := by decide +kernel
theorem dX5_joinPair_41 : decode cX5_joinPair 41 = .ok (.aload_n 0, 1) := by decide +kernel
theorem dX5_joinPair_42 : decode cX5_joinPair 42 = .ok (.getfield 9, 3) := by decide +kernel
theorem dX5_joinPair_45 : decode cX5_joinPair 45 = .ok (.iload 4, 2) := by decide +kernel
theorem dX5_joinPair_47 : decode cX5_joinPair 47 = .ok (.aload_n 0, 1) := by decide +kernel
theorem dX5_joinPair_48 : decode cX5_joinPair 48 = .ok (.iload_n 1, 1) := by decide +kernel
theorem dX5_joinPair_49 : decode cX5_joinPair 49 = .ok (.invokevirtual 61, 3) := by decide +kernel
theorem dX5_joinPair_52 : decode cX5_joinPair 52 = .ok (.aload_n 0, 1) := by decide +kernel
theorem dX5_joinPair_53 : decode cX5_joinPair 53 = .ok (.iload_n 2, 1) := by decide +kernel
theorem dX5_joinPair_54 : decode cX5_joinPair 54 = .ok (.invokevirtual 61, 3) := by decide +kernel
theorem dX5_joinPair_57 : decode cX5_joinPair 57 = .ok (.ior, 1) := by decide +kernel
theorem dX5_joinPair_58 : decode cX5_joinPair 58 = .ok (.invokestatic 142, 3) := by decide +kernel
theorem dX5_joinPair_61 : decode cX5_joinPair 61 = .ok (.aload_n 0, 1) := by decide +kernel
theorem dX5_joinPair_62 : decode cX5_joinPair 62 = .ok (.getfield 9, 3) := by decide +kernel
theorem dX5_joinPair_65 : decode cX5_joinPair 65 = .ok (.iload 5, 2) := by decide +kernel
theorem dX5_joinPair_67 : decode cX5_joinPair 67 = .ok (.iconst 0, 1) := by decide +kernel
theorem dX5_joinPair_68 : decode cX5_joinPair 68 = .ok (.invokestatic 142, 3) := by decide +kernel
theorem dX5_joinPair_71 : decode cX5_joinPair 71 = .ok (.aload_n 0, 1) := by decide +kernel
theorem dX5_joinPair_72 : decode cX5_joinPair 72 = .ok (.iload 5, 2) := by decide +kernel
theorem dX5_joinPair_74 : decode cX5_joinPair 74 = .ok (.invokevirtual 152, 3) := by decide +kernel
theorem dX5_joinPair_77 : decode cX5_joinPair 77 = .ok (.return_, 1) := by decide +kernel
theorem dX5_joinFirstPair_0 : decode cX5_joinFirstPair 0 = .ok (.iconst 0, 1) := by decide +kernel
theorem dX5_joinFirstPair_1 : decode cX5_joinFirstPair 1 = .ok (.istore_n 1, 1) := by decide +kernel
theorem dX5_joinFirstPair_2 : decode cX5_joinFirstPair 2 = .ok (.iload_n 1, 1) := by decide +kernel
theorem dX5_joinFirstPair_3 : decode cX5_joinFirstPair 3 = .ok (.iconst 5, 1) := by decide +kernel
theorem dX5_joinFirstPair_4 : decode cX5_joinFirstPair 4 = .ok (.if_icmp .ge 53, 3) := by decide +kernel
theorem dX5_joinFirstPair_7 : decode cX5_joinFirstPair 7 = .ok (.aload_n 0, 1) := by decide +kernel
theorem dX5_joinFirstPair_8 : decode cX5_joinFirstPair 8 = .ok (.getfield 9, 3) := by decide +kernel
theorem dX5_joinFirstPair_11 : decode cX5_joinFirstPair 11 = .ok (.iload_n 1, 1) := by decide +kernel
theorem dX5_joinFirstPair_12 : decode cX5_joinFirstPair 12 = .ok (.iaload, 1) := by decide +kernel
theorem dX5_joinFirstPair_13 : decode cX5_joinFirstPair 13 = .ok (.invokestatic 128, 3) := by decide +kernel
theorem dX5_joinFirstPair_16 : decode cX5_joinFirstPair 16 = .ok (.istore_n 2, 1) := by decide +kernel
theorem dX5_joinFirstPair_17 : decode cX5_joinFirstPair 17 = .ok (.iload_n 1, 1) := by decide +kernel
theorem dX5_joinFirstPair_18 : decode cX5_joinFirstPair 18 = .ok (.iconst 1, 1) := by decide +kernel
theorem dX5_joinFirstPair_19 : decode cX5_joinFirstPair 19 = .ok (.iadd, 1) := by decide +kernel
theorem dX5_joinFirstPair_20 : decode cX5_joinFirstPair 20 = .ok (.istore_n 3, 1) := by decide +kernel
theorem dX5_joinFirstPair_21 : decode cX5_joinFirstPair 21 = .ok (.iload_n 3, 1) := by decide +kernel
theorem dX5_joinFirstPair_22 : decode cX5_joinFirstPair 22 = .ok (.iconst 5, 1) := by decide +kernel
theorem dX5_joinFirstPair_23 : decode cX5_joinFirstPair 23 = .ok (.if_icmp .ge 28, 3) := by decide +kernel
theorem dX5_joinFirstPair_26 : decode cX5_joinFirstPair 26 = .ok (.iload_n 2, 1) := by decide +kernel
theorem dX5_joinFirstPair_27 : decode cX5_joinFirstPair 27 = .ok (.aload_n 0, 1) := by decide +kernel
theorem dX5_joinFirstPair_28 : decode cX5_joinFirstPair 28 = .ok (.getfield 9, 3) := by decide +kernel
theorem dX5_joinFirstPair_31 : decode cX5_joinFirstPair 31 = .ok (.iload_n 3, 1) := by decide +kernel
theorem dX5_joinFirstPair_32 : decode cX5_joinFirstPair 32 = .ok (.iaload, 1) := by decide +kernel
theorem dX5_joinFirstPair_33 : decode cX5_joinFirstPair 33 = .ok (.iand, 1) := by decide +kernel
theorem dX5_joinFirstPair_34 : decode cX5_joinFirstPair 34 = .ok (.ifCond .eq 11, 3) := by decide +kernel
theorem dX5_joinFirstPair_37 : decode cX5_joinFirstPair 37 = .ok (.aload_n 0, 1) := by decide +kernel
theorem dX5_joinFirstPair_38 : decode cX5_joinFirstPair 38 = .ok (.iload_n 1, 1) := by decide +kernel
theorem dX5_joinFirstPair_39 : decode cX5_joinFirstPair 39 = .ok (.iload_n 3, 1) := by decide +kernel
theorem dX5_joinFirstPair_40 : decode cX5_joinFirstPair 40 = .ok (.invokevirtual 145, 3) := by decide +kernel
theorem dX5_joinFirstPair_43 : decode cX5_joinFirstPair 43 = .ok (.iconst 1, 1) := by decide +kernel
theorem dX5_joinFirstPair_44 : decode cX5_joinFirstPair 44 = .ok (.ireturn, 1) := by decide +kernel
theorem dX5_joinFirstPair_45 : decode cX5_joinFirstPair 45 = .ok (.iinc 3 1, 3) := by decide +kernel
theorem dX5_joinFirstPair_48 : decode cX5_joinFirstPair 48 = .ok (.goto (-27), 3) := by decide +kernel
theorem dX5_joinFirstPair_51 : decode cX5_joinFirstPair 51 = .ok (.iinc 1 1, 3) := by decide +kernel
theorem dX5_joinFirstPair_54 : decode cX5_joinFirstPair 54 = .ok (.goto (-52), 3) := by decide +kernel
theorem dX5_joinFirstPair_57 : decode cX5_joinFirstPair 57 = .ok (.iconst 0, 1) := by decide +kernel
theorem dX5_joinFirstPair_58 : decode cX5_joinFirstPair 58 = .ok (.ireturn, 1) := by decide +kernel
theorem dX5_payRent_0 : decode cX5_payRent 0 = .ok (.aload_n 0, 1) := by decide +kernel
theorem dX5_payRent_1 : decode cX5_payRent 1 = .ok (.getfield 18, 3) := by decide +kernel
theorem dX5_payRent_4 : decode cX5_payRent 4 = .ok (.iload_n 2, 1) := by decide +kernel
theorem dX5_payRent_5 : decode cX5_payRent 5 = .ok (.invokestatic 95, 3) := by decide +kernel
theorem dX5_payRent_8 : decode cX5_payRent 8 = .ok (.istore_n 3, 1) := by decide +kernel
theorem dX5_payRent_9 : decode cX5_payRent 9 = .ok (.aload_n 1, 1) := by decide +kernel
theorem dX5_payRent_10 : decode cX5_payRent 10 = .ok (.iload_n 3, 1) := by decide +kernel
theorem dX5_payRent_11 : decode cX5_payRent 11 = .ok (.invokevirtual 89, 3) := by decide +kernel
theorem dX5_payRent_14 : decode cX5_payRent 14 = .ok (.ifCond .ne 4, 3) := by decide +kernel
theorem dX5_payRent_17 : decode cX5_payRent 17 = .ok (.return_, 1) := by decide +kernel
theorem dX5_payRent_18 : decode cX5_payRent 18 = .ok (.aload_n 0, 1) := by decide +kernel
theorem dX5_payRent_19 : decode cX5_payRent 19 = .ok (.iload_n 2, 1) := by decide +kernel
theorem dX5_payRent_20 : decode cX5_payRent 20 = .ok (.invokevirtual 149, 3) := by decide +kernel
theorem dX5_payRent_23 : decode cX5_payRent 23 = .ok (.istore 4, 2) := by decide +kernel
theorem dX5_payRent_25 : decode cX5_payRent 25 = .ok (.aload_n 1, 1) := by decide +kernel
theorem dX5_payRent_26 : decode cX5_payRent 26 = .ok (.getfield 156, 3) := by decide +kernel
theorem dX5_payRent_29 : decode cX5_payRent 29 = .ok (.iload_n 3, 1) := by decide +kernel
theorem dX5_payRent_30 : decode cX5_payRent 30 = .ok (.invokestatic 95, 3) := by decide +kernel
theorem dX5_payRent_33 : decode cX5_payRent 33 = .ok (.iconst 3, 1) := by decide +kernel
theorem dX5_payRent_34 : decode cX5_payRent 34 = .ok (.if_icmp .ne 9, 3) := by decide +kernel
theorem dX5_payRent_37 : decode cX5_payRent 37 = .ok (.iload 4, 2) := by decide +kernel
theorem dX5_payRent_39 : decode cX5_payRent 39 = .ok (.iconst 2, 1) := by decide +kernel
theorem dX5_payRent_40 : decode cX5_payRent 40 = .ok (.idiv, 1) := by decide +kernel
theorem dX5_payRent_41 : decode cX5_payRent 41 = .ok (.istore 4, 2) := by decide +kernel
theorem dX5_payRent_43 : decode cX5_payRent 43 = .ok (.aload_n 0, 1) := by decide +kernel
theorem dX5_payRent_44 : decode cX5_payRent 44 = .ok (.iload_n 3, 1) := by decide +kernel
theorem dX5_payRent_45 : decode cX5_payRent 45 = .ok (.aload_n 0, 1) := by decide +kernel
theorem dX5_payRent_46 : decode cX5_payRent 46 = .ok (.getfield 15, 3) := by decide +kernel
theorem dX5_payRent_49 : decode cX5_payRent 49 = .ok (.iload_n 2, 1) := by decide +kernel
theorem dX5_payRent_50 : decode cX5_payRent 50 = .ok (.invokestatic 95, 3) := by decide +kernel
theorem dX5_payRent_53 : decode cX5_payRent 53 = .ok (.iload 4, 2) := by decide +kernel
theorem dX5_payRent_55 : decode cX5_payRent 55 = .ok (.invokevirtual 138, 3) := by decide +kernel
theorem dX5_payRent_58 : decode cX5_payRent 58 = .ok (.return_, 1) := by decide +kernel
theorem dX5_passDay_0 : decode cX5_passDay 0 = .ok (.iconst 0, 1) := by decide +kernel
theorem dX5_passDay_1 : decode cX5_passDay 1 = .ok (.istore_n 2, 1) := by decide +kernel
theorem dX5_passDay_2 : decode cX5_passDay 2 = .ok (.iload_n 2, 1) := by decide +kernel
theorem dX5_passDay_3 : decode cX5_passDay 3 = .ok (.iconst 5, 1) := by decide +kernel
theorem dX5_passDay_4 : decode cX5_passDay 4 = .ok (.if_icmp .ge 36, 3) := by decide +kernel
theorem dX5_passDay_7 : decode cX5_passDay 7 = .ok (.aload_n 1, 1) := by decide +kernel
theorem dX5_passDay_8 : decode cX5_passDay 8 = .ok (.iload_n 2, 1) := by decide +kernel
theorem dX5_passDay_9 : decode cX5_passDay 9 = .ok (.invokevirtual 108, 3) := by decide +kernel
theorem dX5_passDay_12 : decode cX5_passDay 12 = .ok (.istore_n 3, 1) := by decide +kernel
theorem dX5_passDay_13 : decode cX5_passDay 13 = .ok (.iconst 0, 1) := by decide +kernel
theorem dX5_passDay_14 : decode cX5_passDay 14 = .ok (.istore 4, 2) := by decide +kernel
theorem dX5_passDay_16 : decode cX5_passDay 16 = .ok (.iload 4, 2) := by decide +kernel
theorem dX5_passDay_18 : decode cX5_passDay 18 = .ok (.iload_n 3, 1) := by decide +kernel
theorem dX5_passDay_19 : decode cX5_passDay 19 = .ok (.if_icmp .ge 15, 3) := by decide +kernel
theorem dX5_passDay_22 : decode cX5_passDay 22 = .ok (.aload_n 0, 1) := by decide +kernel
theorem dX5_passDay_23 : decode cX5_passDay 23 = .ok (.aload_n 1, 1) := by decide +kernel
theorem dX5_passDay_24 : decode cX5_passDay 24 = .ok (.iload_n 2, 1) := by decide +kernel
theorem dX5_passDay_25 : decode cX5_passDay 25 = .ok (.invokevirtual 111, 3) := by decide +kernel
theorem dX5_passDay_28 : decode cX5_passDay 28 = .ok (.iinc 4 1, 3) := by decide +kernel
theorem dX5_passDay_31 : decode cX5_passDay 31 = .ok (.goto (-15), 3) := by decide +kernel
theorem dX5_passDay_34 : decode cX5_passDay 34 = .ok (.iinc 2 1, 3) := by decide +kernel
theorem dX5_passDay_37 : decode cX5_passDay 37 = .ok (.goto (-35), 3) := by decide +kernel
theorem dX5_passDay_40 : decode cX5_passDay 40 = .ok (.iconst 0, 1) := by decide +kernel
theorem dX5_passDay_41 : decode cX5_passDay 41 = .ok (.istore_n 2, 1) := by decide +kernel
theorem dX5_passDay_42 : decode cX5_passDay 42 = .ok (.iload_n 2, 1) := by decide +kernel
theorem dX5_passDay_43 : decode cX5_passDay 43 = .ok (.iconst 5, 1) := by decide +kernel
theorem dX5_passDay_44 : decode cX5_passDay 44 = .ok (.if_icmp .ge 16, 3) := by decide +kernel
theorem dX5_passDay_47 : decode cX5_passDay 47 = .ok (.aload_n 0, 1) := by decide +kernel
theorem dX5_passDay_48 : decode cX5_passDay 48 = .ok (.invokevirtual 115, 3) := by decide +kernel
theorem dX5_passDay_51 : decode cX5_passDay 51 = .ok (.ifCond .eq 9, 3) := by decide +kernel
theorem dX5_passDay_54 : decode cX5_passDay 54 = .ok (.iinc 2 1, 3) := by decide +kernel
theorem dX5_passDay_57 : decode cX5_passDay 57 = .ok (.goto (-15), 3) := by decide +kernel
theorem dX5_passDay_60 : decode cX5_passDay 60 = .ok (.iconst 0, 1) := by decide +kernel
theorem dX5_passDay_61 : decode cX5_passDay 61 = .ok (.istore_n 3, 1) := by decide +kernel
theorem dX5_passDay_62 : decode cX5_passDay 62 = .ok (.iload_n 3, 1) := by decide +kernel
theorem dX5_passDay_63 : decode cX5_passDay 63 = .ok (.iconst 5, 1) := by decide +kernel
theorem dX5_passDay_64 : decode cX5_passDay 64 = .ok (.if_icmp .ge 15, 3) := by decide +kernel
theorem dX5_passDay_67 : decode cX5_passDay 67 = .ok (.aload_n 0, 1) := by decide +kernel
theorem dX5_passDay_68 : decode cX5_passDay 68 = .ok (.aload_n 1, 1) := by decide +kernel
theorem dX5_passDay_69 : decode cX5_passDay 69 = .ok (.iload_n 3, 1) := by decide +kernel
theorem dX5_passDay_70 : decode cX5_passDay 70 = .ok (.invokevirtual 119, 3) := by decide +kernel
theorem dX5_passDay_73 : decode cX5_passDay 73 = .ok (.iinc 3 1, 3) := by decide +kernel
theorem dX5_passDay_76 : decode cX5_passDay 76 = .ok (.goto (-14), 3) := by decide +kernel
theorem dX5_passDay_79 : decode cX5_passDay 79 = .ok (.aload_n 0, 1) := by decide +kernel
theorem dX5_passDay_80 : decode cX5_passDay 80 = .ok (.dup, 1) := by decide +kernel
theorem dX5_passDay_81 : decode cX5_passDay 81 = .ok (.getfield 28, 3) := by decide +kernel
theorem dX5_passDay_84 : decode cX5_passDay 84 = .ok (.iconst 1, 1) := by decide +kernel
theorem dX5_passDay_85 : decode cX5_passDay 85 = .ok (.iadd, 1) := by decide +kernel
theorem dX5_passDay_86 : decode cX5_passDay 86 = .ok (.putfield 28, 3) := by decide +kernel
theorem dX5_passDay_89 : decode cX5_passDay 89 = .ok (.iload_n 2, 1) := by decide +kernel
theorem dX5_passDay_90 : decode cX5_passDay 90 = .ok (.ireturn, 1) := by decide +kernel
theorem dX5_refusalToEat_0 : decode cX5_refusalToEat 0 = .ok (.aload_n 1, 1) := by decide +kernel
theorem dX5_refusalToEat_1 : decode cX5_refusalToEat 1 = .ok (.iload_n 2, 1) := by decide +kernel
theorem dX5_refusalToEat_2 : decode cX5_refusalToEat 2 = .ok (.invokevirtual 89, 3) := by decide +kernel
theorem dX5_refusalToEat_5 : decode cX5_refusalToEat 5 = .ok (.ifCond .eq 10, 3) := by decide +kernel
theorem dX5_refusalToEat_8 : decode cX5_refusalToEat 8 = .ok (.iload_n 3, 1) := by decide +kernel
theorem dX5_refusalToEat_9 : decode cX5_refusalToEat 9 = .ok (.invokestatic 159, 3) := by decide +kernel
theorem dX5_refusalToEat_12 : decode cX5_refusalToEat 12 = .ok (.ifCond .ne 5, 3) := by decide +kernel
theorem dX5_refusalToEat_15 : decode cX5_refusalToEat 15 = .ok (.iconst (-1), 1) := by decide +kernel
theorem dX5_refusalToEat_16 : decode cX5_refusalToEat 16 = .ok (.ireturn, 1) := by decide +kernel
theorem dX5_refusalToEat_17 : decode cX5_refusalToEat 17 = .ok (.aload_n 0, 1) := by decide +kernel
theorem dX5_refusalToEat_18 : decode cX5_refusalToEat 18 = .ok (.getfield 24, 3) := by decide +kernel
theorem dX5_refusalToEat_21 : decode cX5_refusalToEat 21 = .ok (.iload_n 3, 1) := by decide +kernel
theorem dX5_refusalToEat_22 : decode cX5_refusalToEat 22 = .ok (.invokestatic 52, 3) := by decide +kernel
theorem dX5_refusalToEat_25 : decode cX5_refusalToEat 25 = .ok (.iand, 1) := by decide +kernel
theorem dX5_refusalToEat_26 : decode cX5_refusalToEat 26 = .ok (.ifCond .eq 8, 3) := by decide +kernel
theorem dX5_refusalToEat_29 : decode cX5_refusalToEat 29 = .ok (.bipush (-3), 2) := by decide +kernel
theorem dX5_refusalToEat_31 : decode cX5_refusalToEat 31 = .ok (.goto 4, 3) := by decide +kernel
theorem dX5_refusalToEat_34 : decode cX5_refusalToEat 34 = .ok (.iconst 0, 1) := by decide +kernel
theorem dX5_refusalToEat_35 : decode cX5_refusalToEat 35 = .ok (.ireturn, 1) := by decide +kernel
theorem dX5_eatCell_0 : decode cX5_eatCell 0 = .ok (.iload_n 3, 1) := by decide +kernel
theorem dX5_eatCell_1 : decode cX5_eatCell 1 = .ok (.invokestatic 52, 3) := by decide +kernel
theorem dX5_eatCell_4 : decode cX5_eatCell 4 = .ok (.istore 4, 2) := by decide +kernel
theorem dX5_eatCell_6 : decode cX5_eatCell 6 = .ok (.aload_n 0, 1) := by decide +kernel
theorem dX5_eatCell_7 : decode cX5_eatCell 7 = .ok (.aload_n 1, 1) := by decide +kernel
theorem dX5_eatCell_8 : decode cX5_eatCell 8 = .ok (.iload_n 3, 1) := by decide +kernel
theorem dX5_eatCell_9 : decode cX5_eatCell 9 = .ok (.invokevirtual 162, 3) := by decide +kernel
theorem dX5_eatCell_12 : decode cX5_eatCell 12 = .ok (.istore 5, 2) := by decide +kernel
theorem dX5_eatCell_14 : decode cX5_eatCell 14 = .ok (.aload_n 0, 1) := by decide +kernel
theorem dX5_eatCell_15 : decode cX5_eatCell 15 = .ok (.iload_n 3, 1) := by decide +kernel
theorem dX5_eatCell_16 : decode cX5_eatCell 16 = .ok (.invokevirtual 166, 3) := by decide +kernel
theorem dX5_eatCell_19 : decode cX5_eatCell 19 = .ok (.ifCond .ne 19, 3) := by decide +kernel
theorem dX5_eatCell_22 : decode cX5_eatCell 22 = .ok (.aload_n 1, 1) := by decide +kernel
theorem dX5_eatCell_23 : decode cX5_eatCell 23 = .ok (.getfield 156, 3) := by decide +kernel
theorem dX5_eatCell_26 : decode cX5_eatCell 26 = .ok (.iload_n 2, 1) := by decide +kernel
theorem dX5_eatCell_27 : decode cX5_eatCell 27 = .ok (.invokestatic 95, 3) := by decide +kernel
theorem dX5_eatCell_30 : decode cX5_eatCell 30 = .ok (.iconst 2, 1) := by decide +kernel
theorem dX5_eatCell_31 : decode cX5_eatCell 31 = .ok (.if_icmp .ne 7, 3) := by decide +kernel
theorem dX5_eatCell_34 : decode cX5_eatCell 34 = .ok (.iconst 1, 1) := by decide +kernel
theorem dX5_eatCell_35 : decode cX5_eatCell 35 = .ok (.goto 4, 3) := by decide +kernel
theorem dX5_eatCell_38 : decode cX5_eatCell 38 = .ok (.iconst 0, 1) := by decide +kernel
theorem dX5_eatCell_39 : decode cX5_eatCell 39 = .ok (.istore 6, 2) := by decide +kernel
theorem dX5_eatCell_41 : decode cX5_eatCell 41 = .ok (.iload 6, 2) := by decide +kernel
theorem dX5_eatCell_43 : decode cX5_eatCell 43 = .ok (.ifCond .ne 11, 3) := by decide +kernel
theorem dX5_eatCell_46 : decode cX5_eatCell 46 = .ok (.aload_n 0, 1) := by decide +kernel
theorem dX5_eatCell_47 : decode cX5_eatCell 47 = .ok (.iload_n 2, 1) := by decide +kernel
theorem dX5_eatCell_48 : decode cX5_eatCell 48 = .ok (.iload 5, 2) := by decide +kernel
theorem dX5_eatCell_50 : decode cX5_eatCell 50 = .ok (.iconst 1, 1) := by decide +kernel
theorem dX5_eatCell_51 : decode cX5_eatCell 51 = .ok (.invokevirtual 138, 3) := by decide +kernel
theorem dX5_eatCell_54 : decode cX5_eatCell 54 = .ok (.iconst 0, 1) := by decide +kernel
theorem dX5_eatCell_55 : decode cX5_eatCell 55 = .ok (.istore 7, 2) := by decide +kernel
theorem dX5_eatCell_57 : decode cX5_eatCell 57 = .ok (.iload 7, 2) := by decide +kernel
theorem dX5_eatCell_59 : decode cX5_eatCell 59 = .ok (.iconst 5, 1) := by decide +kernel
theorem dX5_eatCell_60 : decode cX5_eatCell 60 = .ok (.if_icmp .ge 39, 3) := by decide +kernel
theorem dX5_eatCell_63 : decode cX5_eatCell 63 = .ok (.aload_n 0, 1) := by decide +kernel
theorem dX5_eatCell_64 : decode cX5_eatCell 64 = .ok (.getfield 9, 3) := by decide +kernel
theorem dX5_eatCell_67 : decode cX5_eatCell 67 = .ok (.iload 7, 2) := by decide +kernel
theorem dX5_eatCell_69 : decode cX5_eatCell 69 = .ok (.dup2, 1) := by decide +kernel
theorem dX5_eatCell_70 : decode cX5_eatCell 70 = .ok (.iaload, 1) := by decide +kernel
theorem dX5_eatCell_71 : decode cX5_eatCell 71 = .ok (.iload 4, 2) := by decide +kernel
theorem dX5_eatCell_73 : decode cX5_eatCell 73 = .ok (.iconst (-1), 1) := by decide +kernel
theorem dX5_eatCell_74 : decode cX5_eatCell 74 = .ok (.ixor, 1) := by decide +kernel
theorem dX5_eatCell_75 : decode cX5_eatCell 75 = .ok (.iand, 1) := by decide +kernel
theorem dX5_eatCell_76 : decode cX5_eatCell 76 = .ok (.iastore, 1) := by decide +kernel
theorem dX5_eatCell_77 : decode cX5_eatCell 77 = .ok (.aload_n 0, 1) := by decide +kernel
theorem dX5_eatCell_78 : decode cX5_eatCell 78 = .ok (.getfield 9, 3) := by decide +kernel
theorem dX5_eatCell_81 : decode cX5_eatCell 81 = .ok (.iload 7, 2) := by decide +kernel
theorem dX5_eatCell_83 : decode cX5_eatCell 83 = .ok (.iaload, 1) := by decide +kernel
theorem dX5_eatCell_84 : decode cX5_eatCell 84 = .ok (.ifCond .ne 9, 3) := by decide +kernel
theorem dX5_eatCell_87 : decode cX5_eatCell 87 = .ok (.aload_n 0, 1) := by decide +kernel
theorem dX5_eatCell_88 : decode cX5_eatCell 88 = .ok (.iload 7, 2) := by decide +kernel
theorem dX5_eatCell_90 : decode cX5_eatCell 90 = .ok (.invokevirtual 152, 3) := by decide +kernel
theorem dX5_eatCell_93 : decode cX5_eatCell 93 = .ok (.iinc 7 1, 3) := by decide +kernel
theorem dX5_eatCell_96 : decode cX5_eatCell 96 = .ok (.goto (-39), 3) := by decide +kernel
theorem dX5_eatCell_99 : decode cX5_eatCell 99 = .ok (.aload_n 0, 1) := by decide +kernel
theorem dX5_eatCell_100 : decode cX5_eatCell 100 = .ok (.dup, 1) := by decide +kernel
theorem dX5_eatCell_101 : decode cX5_eatCell 101 = .ok (.getfield 24, 3) := by decide +kernel
theorem dX5_eatCell_104 : decode cX5_eatCell 104 = .ok (.iload 4, 2) := by decide +kernel
theorem dX5_eatCell_106 : decode cX5_eatCell 106 = .ok (.ior, 1) := by decide +kernel
theorem dX5_eatCell_107 : decode cX5_eatCell 107 = .ok (.putfield 24, 3) := by decide +kernel
theorem dX5_eatCell_110 : decode cX5_eatCell 110 = .ok (.iload 5, 2) := by decide +kernel
theorem dX5_eatCell_112 : decode cX5_eatCell 112 = .ok (.ireturn, 1) := by decide +kernel
theorem dX5_refusalToSell_0 : decode cX5_refusalToSell 0 = .ok (.aload_n 1, 1) := by decide +kernel
theorem dX5_refusalToSell_1 : decode cX5_refusalToSell 1 = .ok (.iload_n 2, 1) := by decide +kernel
theorem dX5_refusalToSell_2 : decode cX5_refusalToSell 2 = .ok (.invokevirtual 43, 3) := by decide +kernel
theorem dX5_refusalToSell_5 : decode cX5_refusalToSell 5 = .ok (.ifCond .eq 11, 3) := by decide +kernel
theorem dX5_refusalToSell_8 : decode cX5_refusalToSell 8 = .ok (.aload_n 1, 1) := by decide +kernel
theorem dX5_refusalToSell_9 : decode cX5_refusalToSell 9 = .ok (.iload_n 3, 1) := by decide +kernel
theorem dX5_refusalToSell_10 : decode cX5_refusalToSell 10 = .ok (.invokevirtual 89, 3) := by decide +kernel
theorem dX5_refusalToSell_13 : decode cX5_refusalToSell 13 = .ok (.ifCond .ne 5, 3) := by decide +kernel
theorem dX5_refusalToSell_16 : decode cX5_refusalToSell 16 = .ok (.iconst (-1), 1) := by decide +kernel
theorem dX5_refusalToSell_17 : decode cX5_refusalToSell 17 = .ok (.ireturn, 1) := by decide +kernel
theorem dX5_refusalToSell_18 : decode cX5_refusalToSell 18 = .ok (.aload_n 0, 1) := by decide +kernel
theorem dX5_refusalToSell_19 : decode cX5_refusalToSell 19 = .ok (.iload_n 2, 1) := by decide +kernel
theorem dX5_refusalToSell_20 : decode cX5_refusalToSell 20 = .ok (.invokevirtual 173, 3) := by decide +kernel
theorem dX5_refusalToSell_23 : decode cX5_refusalToSell 23 = .ok (.ifCond .ne 15, 3) := by decide +kernel
theorem dX5_refusalToSell_26 : decode cX5_refusalToSell 26 = .ok (.aload_n 0, 1) := by decide +kernel
theorem dX5_refusalToSell_27 : decode cX5_refusalToSell 27 = .ok (.getfield 15, 3) := by decide +kernel
theorem dX5_refusalToSell_30 : decode cX5_refusalToSell 30 = .ok (.iload_n 2, 1) := by decide +kernel
theorem dX5_refusalToSell_31 : decode cX5_refusalToSell 31 = .ok (.invokestatic 95, 3) := by decide +kernel
theorem dX5_refusalToSell_34 : decode cX5_refusalToSell 34 = .ok (.iload_n 3, 1) := by decide +kernel
theorem dX5_refusalToSell_35 : decode cX5_refusalToSell 35 = .ok (.if_icmp .ne 8, 3) := by decide +kernel
theorem dX5_refusalToSell_38 : decode cX5_refusalToSell 38 = .ok (.bipush (-3), 2) := by decide +kernel
theorem dX5_refusalToSell_40 : decode cX5_refusalToSell 40 = .ok (.goto 4, 3) := by decide +kernel
theorem dX5_refusalToSell_43 : decode cX5_refusalToSell 43 = .ok (.iconst 0, 1) := by decide +kernel
theorem dX5_refusalToSell_44 : decode cX5_refusalToSell 44 = .ok (.ireturn, 1) := by decide +kernel
theorem dX5_refusalToLet_0 : decode cX5_refusalToLet 0 = .ok (.aload_n 0, 1) := by decide +kernel
theorem dX5_refusalToLet_1 : decode cX5_refusalToLet 1 = .ok (.aload_n 1, 1) := by decide +kernel
theorem dX5_refusalToLet_2 : decode cX5_refusalToLet 2 = .ok (.iload_n 2, 1) := by decide +kernel
theorem dX5_refusalToLet_3 : decode cX5_refusalToLet 3 = .ok (.iload_n 3, 1) := by decide +kernel
theorem dX5_refusalToLet_4 : decode cX5_refusalToLet 4 = .ok (.invokevirtual 169, 3) := by decide +kernel
theorem dX5_refusalToLet_7 : decode cX5_refusalToLet 7 = .ok (.istore 4, 2) := by decide +kernel
theorem dX5_refusalToLet_9 : decode cX5_refusalToLet 9 = .ok (.iload 4, 2) := by decide +kernel
theorem dX5_refusalToLet_11 : decode cX5_refusalToLet 11 = .ok (.ifCond .eq 6, 3) := by decide +kernel
theorem dX5_refusalToLet_14 : decode cX5_refusalToLet 14 = .ok (.iload 4, 2) := by decide +kernel
theorem dX5_refusalToLet_16 : decode cX5_refusalToLet 16 = .ok (.ireturn, 1) := by decide +kernel
theorem dX5_refusalToLet_17 : decode cX5_refusalToLet 17 = .ok (.aload_n 0, 1) := by decide +kernel
theorem dX5_refusalToLet_18 : decode cX5_refusalToLet 18 = .ok (.getfield 18, 3) := by decide +kernel
theorem dX5_refusalToLet_21 : decode cX5_refusalToLet 21 = .ok (.iload_n 2, 1) := by decide +kernel
theorem dX5_refusalToLet_22 : decode cX5_refusalToLet 22 = .ok (.invokestatic 95, 3) := by decide +kernel
theorem dX5_refusalToLet_25 : decode cX5_refusalToLet 25 = .ok (.iload_n 3, 1) := by decide +kernel
theorem dX5_refusalToLet_26 : decode cX5_refusalToLet 26 = .ok (.if_icmp .ne 8, 3) := by decide +kernel
theorem dX5_refusalToLet_29 : decode cX5_refusalToLet 29 = .ok (.bipush (-3), 2) := by decide +kernel
theorem dX5_refusalToLet_31 : decode cX5_refusalToLet 31 = .ok (.goto 4, 3) := by decide +kernel
theorem dX5_refusalToLet_34 : decode cX5_refusalToLet 34 = .ok (.iconst 0, 1) := by decide +kernel
theorem dX5_refusalToLet_35 : decode cX5_refusalToLet 35 = .ok (.ireturn, 1) := by decide +kernel
theorem dX5_letHole_0 : decode cX5_letHole 0 = .ok (.aload_n 0, 1) := by decide +kernel
theorem dX5_letHole_1 : decode cX5_letHole 1 = .ok (.getfield 18, 3) := by decide +kernel
theorem dX5_letHole_4 : decode cX5_letHole 4 = .ok (.iload_n 1, 1) := by decide +kernel
theorem dX5_letHole_5 : decode cX5_letHole 5 = .ok (.invokestatic 95, 3) := by decide +kernel
theorem dX5_letHole_8 : decode cX5_letHole 8 = .ok (.istore_n 3, 1) := by decide +kernel
theorem dX5_letHole_9 : decode cX5_letHole 9 = .ok (.aload_n 0, 1) := by decide +kernel
theorem dX5_letHole_10 : decode cX5_letHole 10 = .ok (.getfield 18, 3) := by decide +kernel
theorem dX5_letHole_13 : decode cX5_letHole 13 = .ok (.iload_n 1, 1) := by decide +kernel
theorem dX5_letHole_14 : decode cX5_letHole 14 = .ok (.iload_n 2, 1) := by decide +kernel
theorem dX5_letHole_15 : decode cX5_letHole 15 = .ok (.invokestatic 142, 3) := by decide +kernel
theorem dX5_letHole_18 : decode cX5_letHole 18 = .ok (.iload_n 3, 1) := by decide +kernel
theorem dX5_letHole_19 : decode cX5_letHole 19 = .ok (.ireturn, 1) := by decide +kernel
theorem dX5_sellHole_0 : decode cX5_sellHole 0 = .ok (.aload_n 0, 1) := by decide +kernel
theorem dX5_sellHole_1 : decode cX5_sellHole 1 = .ok (.iload_n 1, 1) := by decide +kernel
theorem dX5_sellHole_2 : decode cX5_sellHole 2 = .ok (.invokevirtual 149, 3) := by decide +kernel
theorem dX5_sellHole_5 : decode cX5_sellHole 5 = .ok (.istore_n 3, 1) := by decide +kernel
theorem dX5_sellHole_6 : decode cX5_sellHole 6 = .ok (.aload_n 0, 1) := by decide +kernel
theorem dX5_sellHole_7 : decode cX5_sellHole 7 = .ok (.iload_n 2, 1) := by decide +kernel
theorem dX5_sellHole_8 : decode cX5_sellHole 8 = .ok (.aload_n 0, 1) := by decide +kernel
theorem dX5_sellHole_9 : decode cX5_sellHole 9 = .ok (.getfield 15, 3) := by decide +kernel
theorem dX5_sellHole_12 : decode cX5_sellHole 12 = .ok (.iload_n 1, 1) := by decide +kernel
theorem dX5_sellHole_13 : decode cX5_sellHole 13 = .ok (.invokestatic 95, 3) := by decide +kernel
theorem dX5_sellHole_16 : decode cX5_sellHole 16 = .ok (.iload_n 3, 1) := by decide +kernel
theorem dX5_sellHole_17 : decode cX5_sellHole 17 = .ok (.invokevirtual 138, 3) := by decide +kernel
theorem dX5_sellHole_20 : decode cX5_sellHole 20 = .ok (.aload_n 0, 1) := by decide +kernel
theorem dX5_sellHole_21 : decode cX5_sellHole 21 = .ok (.getfield 15, 3) := by decide +kernel
theorem dX5_sellHole_24 : decode cX5_sellHole 24 = .ok (.iload_n 1, 1) := by decide +kernel
theorem dX5_sellHole_25 : decode cX5_sellHole 25 = .ok (.iload_n 2, 1) := by decide +kernel
theorem dX5_sellHole_26 : decode cX5_sellHole 26 = .ok (.invokestatic 142, 3) := by decide +kernel
theorem dX5_sellHole_29 : decode cX5_sellHole 29 = .ok (.aload_n 0, 1) := by decide +kernel
theorem dX5_sellHole_30 : decode cX5_sellHole 30 = .ok (.getfield 18, 3) := by decide +kernel
theorem dX5_sellHole_33 : decode cX5_sellHole 33 = .ok (.iload_n 1, 1) := by decide +kernel
theorem dX5_sellHole_34 : decode cX5_sellHole 34 = .ok (.invokestatic 95, 3) := by decide +kernel
theorem dX5_sellHole_37 : decode cX5_sellHole 37 = .ok (.iload_n 2, 1) := by decide +kernel
theorem dX5_sellHole_38 : decode cX5_sellHole 38 = .ok (.if_icmp .ne 13, 3) := by decide +kernel
theorem dX5_sellHole_41 : decode cX5_sellHole 41 = .ok (.aload_n 0, 1) := by decide +kernel
theorem dX5_sellHole_42 : decode cX5_sellHole 42 = .ok (.getfield 18, 3) := by decide +kernel
theorem dX5_sellHole_45 : decode cX5_sellHole 45 = .ok (.iload_n 1, 1) := by decide +kernel
theorem dX5_sellHole_46 : decode cX5_sellHole 46 = .ok (.bipush (-9), 2) := by decide +kernel
theorem dX5_sellHole_48 : decode cX5_sellHole 48 = .ok (.invokestatic 142, 3) := by decide +kernel
theorem dX5_sellHole_51 : decode cX5_sellHole 51 = .ok (.iload_n 3, 1) := by decide +kernel
theorem dX5_sellHole_52 : decode cX5_sellHole 52 = .ok (.ireturn, 1) := by decide +kernel
theorem dX5_doTold_0 : decode cX5_doTold 0 = .ok (.iload_n 2, 1) := by decide +kernel
theorem dX5_doTold_1 : decode cX5_doTold 1 = .ok (.bipush 100, 2) := by decide +kernel
theorem dX5_doTold_3 : decode cX5_doTold 3 = .ok (.idiv, 1) := by decide +kernel
theorem dX5_doTold_4 : decode cX5_doTold 4 = .ok (.bipush 10, 2) := by decide +kernel
theorem dX5_doTold_6 : decode cX5_doTold 6 = .ok (.irem, 1) := by decide +kernel
theorem dX5_doTold_7 : decode cX5_doTold 7 = .ok (.istore_n 3, 1) := by decide +kernel
theorem dX5_doTold_8 : decode cX5_doTold 8 = .ok (.iload_n 2, 1) := by decide +kernel
theorem dX5_doTold_9 : decode cX5_doTold 9 = .ok (.bipush 100, 2) := by decide +kernel
theorem dX5_doTold_11 : decode cX5_doTold 11 = .ok (.irem, 1) := by decide +kernel
theorem dX5_doTold_12 : decode cX5_doTold 12 = .ok (.istore 4, 2) := by decide +kernel
theorem dX5_doTold_14 : decode cX5_doTold 14 = .ok (.iload_n 2, 1) := by decide +kernel
theorem dX5_doTold_15 : decode cX5_doTold 15 = .ok (.sipush 1000, 3) := by decide +kernel
theorem dX5_doTold_18 : decode cX5_doTold 18 = .ok (.idiv, 1) := by decide +kernel
theorem dX5_doTold_19 : decode cX5_doTold 19 = .ok (.tableswitch 113 0 3 #[29, 43, 67, 90], 29) := by decide +kernel
theorem dX5_doTold_48 : decode cX5_doTold 48 = .ok (.iload_n 2, 1) := by decide +kernel
theorem dX5_doTold_49 : decode cX5_doTold 49 = .ok (.ifCond .eq 5, 3) := by decide +kernel
theorem dX5_doTold_52 : decode cX5_doTold 52 = .ok (.iconst 0, 1) := by decide +kernel
theorem dX5_doTold_53 : decode cX5_doTold 53 = .ok (.ireturn, 1) := by decide +kernel
theorem dX5_doTold_54 : decode cX5_doTold 54 = .ok (.aload_n 0, 1) := by decide +kernel
theorem dX5_doTold_55 : decode cX5_doTold 55 = .ok (.aload_n 1, 1) := by decide +kernel
theorem dX5_doTold_56 : decode cX5_doTold 56 = .ok (.invokevirtual 176, 3) := by decide +kernel
theorem dX5_doTold_59 : decode cX5_doTold 59 = .ok (.pop, 1) := by decide +kernel
theorem dX5_doTold_60 : decode cX5_doTold 60 = .ok (.iconst 1, 1) := by decide +kernel
theorem dX5_doTold_61 : decode cX5_doTold 61 = .ok (.ireturn, 1) := by decide +kernel
theorem dX5_doTold_62 : decode cX5_doTold 62 = .ok (.aload_n 0, 1) := by decide +kernel
theorem dX5_doTold_63 : decode cX5_doTold 63 = .ok (.aload_n 1, 1) := by decide +kernel
theorem dX5_doTold_64 : decode cX5_doTold 64 = .ok (.iload_n 3, 1) := by decide +kernel
theorem dX5_doTold_65 : decode cX5_doTold 65 = .ok (.iload 4, 2) := by decide +kernel
theorem dX5_doTold_67 : decode cX5_doTold 67 = .ok (.invokevirtual 179, 3) := by decide +kernel
theorem dX5_doTold_70 : decode cX5_doTold 70 = .ok (.ifCond .eq 5, 3) := by decide +kernel
theorem dX5_doTold_73 : decode cX5_doTold 73 = .ok (.iconst 0, 1) := by decide +kernel
theorem dX5_doTold_74 : decode cX5_doTold 74 = .ok (.ireturn, 1) := by decide +kernel
theorem dX5_doTold_75 : decode cX5_doTold 75 = .ok (.aload_n 0, 1) := by decide +kernel
theorem dX5_doTold_76 : decode cX5_doTold 76 = .ok (.aload_n 1, 1) := by decide +kernel
theorem dX5_doTold_77 : decode cX5_doTold 77 = .ok (.iload_n 3, 1) := by decide +kernel
theorem dX5_doTold_78 : decode cX5_doTold 78 = .ok (.iload 4, 2) := by decide +kernel
theorem dX5_doTold_80 : decode cX5_doTold 80 = .ok (.invokevirtual 182, 3) := by decide +kernel
theorem dX5_doTold_83 : decode cX5_doTold 83 = .ok (.pop, 1) := by decide +kernel
theorem dX5_doTold_84 : decode cX5_doTold 84 = .ok (.iconst 1, 1) := by decide +kernel
theorem dX5_doTold_85 : decode cX5_doTold 85 = .ok (.ireturn, 1) := by decide +kernel
theorem dX5_doTold_86 : decode cX5_doTold 86 = .ok (.aload_n 0, 1) := by decide +kernel
theorem dX5_doTold_87 : decode cX5_doTold 87 = .ok (.aload_n 1, 1) := by decide +kernel
theorem dX5_doTold_88 : decode cX5_doTold 88 = .ok (.iload_n 3, 1) := by decide +kernel
theorem dX5_doTold_89 : decode cX5_doTold 89 = .ok (.iload 4, 2) := by decide +kernel
theorem dX5_doTold_91 : decode cX5_doTold 91 = .ok (.invokevirtual 185, 3) := by decide +kernel
theorem dX5_doTold_94 : decode cX5_doTold 94 = .ok (.ifCond .eq 5, 3) := by decide +kernel
theorem dX5_doTold_97 : decode cX5_doTold 97 = .ok (.iconst 0, 1) := by decide +kernel
theorem dX5_doTold_98 : decode cX5_doTold 98 = .ok (.ireturn, 1) := by decide +kernel
theorem dX5_doTold_99 : decode cX5_doTold 99 = .ok (.aload_n 0, 1) := by decide +kernel
theorem dX5_doTold_100 : decode cX5_doTold 100 = .ok (.iload_n 3, 1) := by decide +kernel
theorem dX5_doTold_101 : decode cX5_doTold 101 = .ok (.iload 4, 2) := by decide +kernel
theorem dX5_doTold_103 : decode cX5_doTold 103 = .ok (.invokevirtual 188, 3) := by decide +kernel
theorem dX5_doTold_106 : decode cX5_doTold 106 = .ok (.pop, 1) := by decide +kernel
theorem dX5_doTold_107 : decode cX5_doTold 107 = .ok (.iconst 1, 1) := by decide +kernel
theorem dX5_doTold_108 : decode cX5_doTold 108 = .ok (.ireturn, 1) := by decide +kernel
theorem dX5_doTold_109 : decode cX5_doTold 109 = .ok (.aload_n 0, 1) := by decide +kernel
theorem dX5_doTold_110 : decode cX5_doTold 110 = .ok (.aload_n 1, 1) := by decide +kernel
theorem dX5_doTold_111 : decode cX5_doTold 111 = .ok (.iload_n 3, 1) := by decide +kernel
theorem dX5_doTold_112 : decode cX5_doTold 112 = .ok (.iload 4, 2) := by decide +kernel
theorem dX5_doTold_114 : decode cX5_doTold 114 = .ok (.invokevirtual 169, 3) := by decide +kernel
theorem dX5_doTold_117 : decode cX5_doTold 117 = .ok (.ifCond .eq 5, 3) := by decide +kernel
theorem dX5_doTold_120 : decode cX5_doTold 120 = .ok (.iconst 0, 1) := by decide +kernel
theorem dX5_doTold_121 : decode cX5_doTold 121 = .ok (.ireturn, 1) := by decide +kernel
theorem dX5_doTold_122 : decode cX5_doTold 122 = .ok (.aload_n 0, 1) := by decide +kernel
theorem dX5_doTold_123 : decode cX5_doTold 123 = .ok (.iload_n 3, 1) := by decide +kernel
theorem dX5_doTold_124 : decode cX5_doTold 124 = .ok (.iload 4, 2) := by decide +kernel
theorem dX5_doTold_126 : decode cX5_doTold 126 = .ok (.invokevirtual 192, 3) := by decide +kernel
theorem dX5_doTold_129 : decode cX5_doTold 129 = .ok (.pop, 1) := by decide +kernel
theorem dX5_doTold_130 : decode cX5_doTold 130 = .ok (.iconst 1, 1) := by decide +kernel
theorem dX5_doTold_131 : decode cX5_doTold 131 = .ok (.ireturn, 1) := by decide +kernel
theorem dX5_doTold_132 : decode cX5_doTold 132 = .ok (.iconst 0, 1) := by decide +kernel
theorem dX5_doTold_133 : decode cX5_doTold 133 = .ok (.ireturn, 1) := by decide +kernel
def wp_X5_copyFrom (s0 : CS) (s1 : CS) (Q : CS → CS → Prop) : Prop := ∀ s0_1 : CS, s0_1 = sF s0 0 (va_cpy (s1.2.1 0) (s0.2.1 0) (0 : Int32).toNatClampNeg (0 : Int32).toNatClampNeg (5 : Int32).toNatClampNeg) → ∀ s0_2 : CS, s0_2 = sF s0_1 1 (va_cpy (s1.2.1 1) (s0_1.2.1 1) (0 : Int32).toNatClampNeg (0 : Int32).toNatClampNeg (5 : Int32).toNatClampNeg) → ∀ s0_3 : CS, s0_3 = sF s0_2 2 (va_cpy (s1.2.1 2) (s0_2.2.1 2) (0 : Int32).toNatClampNeg (0 : Int32).toNatClampNeg (5 : Int32).toNatClampNeg) → ∀ s0_4 : CS, s0_4 = sF s0_3 3 (va_cpy (s1.2.1 3) (s0_3.2.1 3) (0 : Int32).toNatClampNeg (0 : Int32).toNatClampNeg (4 : Int32).toNatClampNeg) → ∀ s0_5 : CS, s0_5 = sI s0_4 4 (s1.1 4) → ∀ s0_6 : CS, s0_6 = sI s0_5 5 (s1.1 5) → Q s0_6 s1
set_option maxHeartbeats 4000000 in
set_option maxRecDepth 100000 in
theorem c_X5_copyFrom (l : Launch) (D : va_G) (cI cZ cW : ClassId) (q0 : Nat → Nat) (q1 : Nat → Nat) (sz : Nat) (s0 : CS) (s1 : CS) (Q : CS → CS → Prop) (hf : wp_X5_copyFrom s0 s1 Q) : Met l yX5_copyFrom (wsA yX5_copyFrom cX5_copyFrom 2 none) ({ frames := 1, cells := 0, slots := 0, locals := 40 }) (PW D cI cZ cW [.ref (q0 0), .ref (q1 0)] (wW cI cZ q0 s0 ++ wW cI cZ q1 s1) sz) (va_Qv (fun (u : CS × CS) => Q u.1 u.2) (fun u t => va_P D classes (wW cI cZ q0 u.1 ++ wW cI cZ q1 u.2) t.heap) (va_A (wW cI cZ q0 s0 ++ wW cI cZ q1 s1) sz)) 0 0 (va_A (wW cI cZ q0 s0 ++ wW cI cZ q1 s1) sz) := by
  refine Met.ofW (cc := cX5_copyFrom) (maxL := 2) (ret := none) (by decide) rfl ?_
  intro p e s m args below meth c s₁ B hml hv
  obtain ⟨rfl, hsz, hP, hK, hD0⟩ := hv
  have hx := B.exec
  have hb := B.bytes
  have hr := B.returns
  have hts := atoms_spec (ws := (wsA yX5_copyFrom cX5_copyFrom 2 none)) B.pre
  have ht : ∀ w ∈ lw_g, w.before _ s = true := fun w h => hts w (List.mem_cons_of_mem _ h)
  have hown : s.vm.findClass RX5 = some m.cls := findClass_of_methodNamed B.named
  have hlocks := B.notSynchronized
  subst hsz
  have hD := hD0.self (sz := s.heap.size)
  generalize hAe : va_A (wW cI cZ q0 s0 ++ wW cI cZ q1 s1) s.heap.size = A at hD ⊢
  have hA : ∀ q : Nat, s.heap.size ≤ q → A q := fun q h => by rw [← hAe]; exact Or.inr h
  have hS : va_S A s.heap s.heap [] := va_S.rf
  have hl := lv_entry ([.ref (q0 0), .ref (q1 0)]) (n := 2) (Nat.le_of_ble_eq_true rfl)
  rw [lg_entry_eq]
  generalize (lg_sl ([.ref (q0 0), .ref (q1 0)]) ++ List.replicate (2 - (lg_sl ([.ref (q0 0), .ref (q1 0)])).length) Slot.unset).toArray = ls at hl ⊢
  have hl : lv_has ls 2 [(0, .ref (q0 0)), (1, .ref (q1 0))] := hl
  unfold wp_X5_copyFrom at hf
  have start : ∀ (H : Heap) (locs : List Loc), va_P D classes (wW cI cZ q0 s0 ++ wW cI cZ q1 s1) H → va_D A (wW cI cZ q0 s0 ++ wW cI cZ q1 s1) → va_S A s.heap H locs → W p l e (headSpec (wsA yX5_copyFrom cX5_copyFrom 2 none) ({ frames := 1, cells := 0, slots := 0, locals := 40 })).room s m (#[.ref (q0 0), .ref (q1 0)] : Array Value) below meth c H locs 0 0 (MQ below (va_Qv (fun (u : CS × CS) => Q u.1 u.2) (fun u t => va_P D classes (wW cI cZ q0 u.1 ++ wW cI cZ q1 u.2) t.heap) A) (#[.ref (q0 0), .ref (q1 0)] : Array Value) s 0 0 A) (F0 m 0 ls []) := by
    intro H locs hP hD hS
    refine lv_aload_n hx hb dX5_copyFrom_0 rfl (lv_at hl 1 rfl) ?_
    refine va_get (D := D) (ci := 3) (v := .ref (q1 1)) (C := RX5) (T := TX5) (N := 6) hx hb ht inX5 hown hK hP 5 rfl rfl 0 (by decide) (ht _ tw_91) (fun _ h9 => h9) rfl dX5_copyFrom_1 ?_
    refine lv_iconst (v := (0 : Int32)) hx hb dX5_copyFrom_4 (by decide) ?_
    refine lv_aload_n hx hb dX5_copyFrom_5 rfl (lv_at hl 0 rfl) ?_
    refine va_get (D := D) (ci := 3) (v := .ref (q0 1)) (C := RX5) (T := TX5) (N := 6) hx hb ht inX5 hown hK hP 0 rfl rfl 0 (by decide) (ht _ tw_91) (fun _ h9 => h9) rfl dX5_copyFrom_6 ?_
    refine lv_iconst (v := (0 : Int32)) hx hb dX5_copyFrom_9 (by decide) ?_
    refine lv_iconst (v := (5 : Int32)) hx hb dX5_copyFrom_10 (by decide) ?_
    refine va_copyi hx hb (by rw [hml]; exact hl.1.symm) hown (ht _ tw_363) (ht _ tw_365) (ht _ tw_364) (ht _ tw_11) hK hP hD hS 6 1 0 0 rfl rfl rfl rfl rfl (by decide) (by decide) (by decide) (by decide) (by decide) (fun _ _ => rfl) (Nat.le_of_ble_eq_true rfl) (Nat.le_of_ble_eq_true rfl) dX5_copyFrom_11 (fun H locs hP hD hS => ?_)
    obtain ⟨s0_1, es0_1⟩ : ∃ y : CS, y = sF s0 0 (va_cpy (s1.2.1 0) (s0.2.1 0) (0 : Int32).toNatClampNeg (0 : Int32).toNatClampNeg (5 : Int32).toNatClampNeg) := ⟨_, rfl⟩
    have hf := hf s0_1 es0_1
    have hP : va_P D classes (wW cI cZ q0 s0_1 ++ wW cI cZ q1 s1) H := by rw [es0_1]; exact hP
    have hD : va_D A (wW cI cZ q0 s0_1 ++ wW cI cZ q1 s1) := by rw [es0_1]; exact hD
    refine lv_aload_n hx hb dX5_copyFrom_14 rfl (lv_at hl 1 rfl) ?_
    refine va_get (D := D) (ci := 3) (v := .ref (q1 2)) (C := RX5) (T := TX5) (N := 6) hx hb ht inX5 hown hK hP 5 rfl rfl 1 (by decide) (ht _ tw_92) (fun _ h9 => h9) rfl dX5_copyFrom_15 ?_
    refine lv_iconst (v := (0 : Int32)) hx hb dX5_copyFrom_18 (by decide) ?_
    refine lv_aload_n hx hb dX5_copyFrom_19 rfl (lv_at hl 0 rfl) ?_
    refine va_get (D := D) (ci := 3) (v := .ref (q0 2)) (C := RX5) (T := TX5) (N := 6) hx hb ht inX5 hown hK hP 0 rfl rfl 1 (by decide) (ht _ tw_92) (fun _ h9 => h9) rfl dX5_copyFrom_20 ?_
    refine lv_iconst (v := (0 : Int32)) hx hb dX5_copyFrom_23 (by decide) ?_
    refine lv_iconst (v := (5 : Int32)) hx hb dX5_copyFrom_24 (by decide) ?_
    refine va_copyi hx hb (by rw [hml]; exact hl.1.symm) hown (ht _ tw_363) (ht _ tw_365) (ht _ tw_364) (ht _ tw_11) hK hP hD hS 7 2 0 0 rfl rfl rfl rfl rfl (by decide) (by decide) (by decide) (by decide) (by decide) (fun _ _ => rfl) (Nat.le_of_ble_eq_true rfl) (Nat.le_of_ble_eq_true rfl) dX5_copyFrom_25 (fun H locs hP hD hS => ?_)
    obtain ⟨s0_2, es0_2⟩ : ∃ y : CS, y = sF s0_1 1 (va_cpy (s1.2.1 1) (s0_1.2.1 1) (0 : Int32).toNatClampNeg (0 : Int32).toNatClampNeg (5 : Int32).toNatClampNeg) := ⟨_, rfl⟩
    have hf := hf s0_2 es0_2
    have hP : va_P D classes (wW cI cZ q0 s0_2 ++ wW cI cZ q1 s1) H := by rw [es0_2]; exact hP
    have hD : va_D A (wW cI cZ q0 s0_2 ++ wW cI cZ q1 s1) := by rw [es0_2]; exact hD
    refine lv_aload_n hx hb dX5_copyFrom_28 rfl (lv_at hl 1 rfl) ?_
    refine va_get (D := D) (ci := 3) (v := .ref (q1 3)) (C := RX5) (T := TX5) (N := 6) hx hb ht inX5 hown hK hP 5 rfl rfl 2 (by decide) (ht _ tw_94) (fun _ h9 => h9) rfl dX5_copyFrom_29 ?_
    refine lv_iconst (v := (0 : Int32)) hx hb dX5_copyFrom_32 (by decide) ?_
    refine lv_aload_n hx hb dX5_copyFrom_33 rfl (lv_at hl 0 rfl) ?_
    refine va_get (D := D) (ci := 3) (v := .ref (q0 3)) (C := RX5) (T := TX5) (N := 6) hx hb ht inX5 hown hK hP 0 rfl rfl 2 (by decide) (ht _ tw_94) (fun _ h9 => h9) rfl dX5_copyFrom_34 ?_
    refine lv_iconst (v := (0 : Int32)) hx hb dX5_copyFrom_37 (by decide) ?_
    refine lv_iconst (v := (5 : Int32)) hx hb dX5_copyFrom_38 (by decide) ?_
    refine va_copyi hx hb (by rw [hml]; exact hl.1.symm) hown (ht _ tw_363) (ht _ tw_365) (ht _ tw_364) (ht _ tw_11) hK hP hD hS 8 3 0 0 rfl rfl rfl rfl rfl (by decide) (by decide) (by decide) (by decide) (by decide) (fun _ _ => rfl) (Nat.le_of_ble_eq_true rfl) (Nat.le_of_ble_eq_true rfl) dX5_copyFrom_39 (fun H locs hP hD hS => ?_)
    obtain ⟨s0_3, es0_3⟩ : ∃ y : CS, y = sF s0_2 2 (va_cpy (s1.2.1 2) (s0_2.2.1 2) (0 : Int32).toNatClampNeg (0 : Int32).toNatClampNeg (5 : Int32).toNatClampNeg) := ⟨_, rfl⟩
    have hf := hf s0_3 es0_3
    have hP : va_P D classes (wW cI cZ q0 s0_3 ++ wW cI cZ q1 s1) H := by rw [es0_3]; exact hP
    have hD : va_D A (wW cI cZ q0 s0_3 ++ wW cI cZ q1 s1) := by rw [es0_3]; exact hD
    refine lv_aload_n hx hb dX5_copyFrom_42 rfl (lv_at hl 1 rfl) ?_
    refine va_get (D := D) (ci := 3) (v := .ref (q1 4)) (C := RX5) (T := TX5) (N := 6) hx hb ht inX5 hown hK hP 5 rfl rfl 3 (by decide) (ht _ tw_96) (fun _ h9 => h9) rfl dX5_copyFrom_43 ?_
    refine lv_iconst (v := (0 : Int32)) hx hb dX5_copyFrom_46 (by decide) ?_
    refine lv_aload_n hx hb dX5_copyFrom_47 rfl (lv_at hl 0 rfl) ?_
    refine va_get (D := D) (ci := 3) (v := .ref (q0 4)) (C := RX5) (T := TX5) (N := 6) hx hb ht inX5 hown hK hP 0 rfl rfl 3 (by decide) (ht _ tw_96) (fun _ h9 => h9) rfl dX5_copyFrom_48 ?_
    refine lv_iconst (v := (0 : Int32)) hx hb dX5_copyFrom_51 (by decide) ?_
    refine lv_iconst (v := (4 : Int32)) hx hb dX5_copyFrom_52 (by decide) ?_
    refine va_copyi hx hb (by rw [hml]; exact hl.1.symm) hown (ht _ tw_363) (ht _ tw_365) (ht _ tw_364) (ht _ tw_11) hK hP hD hS 9 4 0 0 rfl rfl rfl rfl rfl (by decide) (by decide) (by decide) (by decide) (by decide) (fun _ _ => rfl) (Nat.le_of_ble_eq_true rfl) (Nat.le_of_ble_eq_true rfl) dX5_copyFrom_53 (fun H locs hP hD hS => ?_)
    obtain ⟨s0_4, es0_4⟩ : ∃ y : CS, y = sF s0_3 3 (va_cpy (s1.2.1 3) (s0_3.2.1 3) (0 : Int32).toNatClampNeg (0 : Int32).toNatClampNeg (4 : Int32).toNatClampNeg) := ⟨_, rfl⟩
    have hf := hf s0_4 es0_4
    have hP : va_P D classes (wW cI cZ q0 s0_4 ++ wW cI cZ q1 s1) H := by rw [es0_4]; exact hP
    have hD : va_D A (wW cI cZ q0 s0_4 ++ wW cI cZ q1 s1) := by rw [es0_4]; exact hD
    refine lv_aload_n hx hb dX5_copyFrom_56 rfl (lv_at hl 0 rfl) ?_
    refine lv_aload_n hx hb dX5_copyFrom_57 rfl (lv_at hl 1 rfl) ?_
    refine va_get (D := D) (ci := 3) (v := .int (s1.1 4)) (C := RX5) (T := TX5) (N := 6) hx hb ht inX5 hown hK hP 5 rfl rfl 4 (by decide) (ht _ tw_98) (fun _ h9 => h9) rfl dX5_copyFrom_58 ?_
    refine va_put (D := D) (ci := 3) (v := .int (s1.1 4)) (ty := .int) (C := RX5) (T := TX5) (N := 6) hx hb ht inX5 tyX5 tyX5_ok nmX5 hown hK hP hD hS 0 rfl rfl 4 (by decide) (ht _ tw_98) (fun _ h9 => h9) rfl pf_I rfl rfl (Nat.le_of_ble_eq_true rfl) dX5_copyFrom_61 (fun H locs hP hD hS => ?_)
    obtain ⟨s0_5, es0_5⟩ : ∃ y : CS, y = sI s0_4 4 (s1.1 4) := ⟨_, rfl⟩
    have hf := hf s0_5 es0_5
    have hP : va_P D classes (wW cI cZ q0 s0_5 ++ wW cI cZ q1 s1) H := by rw [es0_5]; exact hP
    have hD : va_D A (wW cI cZ q0 s0_5 ++ wW cI cZ q1 s1) := by rw [es0_5]; exact hD
    refine lv_aload_n hx hb dX5_copyFrom_64 rfl (lv_at hl 0 rfl) ?_
    refine lv_aload_n hx hb dX5_copyFrom_65 rfl (lv_at hl 1 rfl) ?_
    refine va_get (D := D) (ci := 3) (v := .int (s1.1 5)) (C := RX5) (T := TX5) (N := 6) hx hb ht inX5 hown hK hP 5 rfl rfl 5 (by decide) (ht _ tw_100) (fun _ h9 => h9) rfl dX5_copyFrom_66 ?_
    refine va_put (D := D) (ci := 3) (v := .int (s1.1 5)) (ty := .int) (C := RX5) (T := TX5) (N := 6) hx hb ht inX5 tyX5 tyX5_ok nmX5 hown hK hP hD hS 0 rfl rfl 5 (by decide) (ht _ tw_100) (fun _ h9 => h9) rfl pf_I rfl rfl (Nat.le_of_ble_eq_true rfl) dX5_copyFrom_69 (fun H locs hP hD hS => ?_)
    obtain ⟨s0_6, es0_6⟩ : ∃ y : CS, y = sI s0_5 5 (s1.1 5) := ⟨_, rfl⟩
    have hf := hf s0_6 es0_6
    have hP : va_P D classes (wW cI cZ q0 s0_6 ++ wW cI cZ q1 s1) H := by rw [es0_6]; exact hP
    have hD : va_D A (wW cI cZ q0 s0_6 ++ wW cI cZ q1 s1) := by rw [es0_6]; exact hD
    exact W.vret hx hb hr (fun t ht hW => ⟨⟨(s0_6, s1), rfl, hf, P_heap ht hP⟩, hS.F ht⟩) hS.2.2 dX5_copyFrom_72
  exact start s.heap [] hP hD hS
def B_X5_beginWith_56 (G2 : (Int32 × CS × CS) → Prop)  (x2 : Int32) (t0 : Int32) (t1 : Int32) (s0 : CS) (s1 : CS) (Q : CS → CS → Prop) : Prop := vp_in t1 5 ∧ ∀ s0_2 : CS, s0_2 = sA s0 1 t1.toNatClampNeg t0 → vp_in x2 5 ∧ ∀ s0_4 : CS, s0_4 = sA s0_2 2 x2.toNatClampNeg (-9 : Int32) → ∀ x2_5 : Int32, x2_5 = x2 + (1 : Int32) → G2 (x2_5, s0_4, s1)
def B_X5_beginWith_35 (G2 : (Int32 × CS × CS) → Prop)  (x2 : Int32) (x3 : Int32) (t0 : Int32) (t1 : Int32) (s0 : CS) (s1 : CS) (Q : CS → CS → Prop) : Prop := vp_in t1 5 ∧ ∀ s0_7 : CS, s0_7 = sA s0 0 t1.toNatClampNeg t0 → ((x3 = 0 → B_X5_beginWith_56 G2  x2 (-9 : Int32) x2 s0_7 s1 Q) ∧ (¬ x3 = 0 → vp_in x2 5 ∧ B_X5_beginWith_56 G2  x2 ((s1.2.1 5) x2.toNatClampNeg) x2 s0_7 s1 Q))
def LB_X5_beginWith_2 (G2 : (Int32 × CS × CS) → Prop)  (x2 : Int32) (s0 : CS) (s1 : CS) (Q : CS → CS → Prop) : Prop := (((5 : Int32) ≤ x2 → wp_J7_fill_53178 (0 : Int32) 4 (s0.2.1 3) (fun f_11 => ∀ s0_12 : CS, s0_12 = sF s0 3 f_11 → ∀ s0_13 : CS, s0_13 = sI s0_12 4 (0 : Int32) → ∀ s0_14 : CS, s0_14 = sI s0_13 5 (0 : Int32) → Q s0_14 s1)) ∧ (¬ (5 : Int32) ≤ x2 → wp_X1_hasHole x2 s1 (fun r_15 => ((r_15 = 0 → B_X5_beginWith_35 G2  x2 r_15 (0 : Int32) x2 s0 s1 Q) ∧ (¬ r_15 = 0 → vp_in x2 5 ∧ wp_X2_bitOf ((s1.2.1 6) x2.toNatClampNeg) (fun r_18 => B_X5_beginWith_35 G2  x2 r_15 r_18 x2 s0 s1 Q))))))
def B_X5_beginWith_2  (x2 : Int32) (s0 : CS) (s1 : CS) (Q : CS → CS → Prop) : Prop := LOOP (fun (G2 : (Int32 × CS × CS) → Prop) z => LB_X5_beginWith_2 G2  z.1 z.2.1 z.2.2 Q) (x2, s0, s1)
def wp_X5_beginWith (s0 : CS) (s1 : CS) (Q : CS → CS → Prop) : Prop := B_X5_beginWith_2  (0 : Int32) s0 s1 Q
set_option maxHeartbeats 4000000 in
set_option maxRecDepth 100000 in
theorem c_X5_beginWith (l : Launch) (D : va_G) (cI cZ cW : ClassId) (q0 : Nat → Nat) (q1 : Nat → Nat) (sz : Nat) (s0 : CS) (s1 : CS) (Q : CS → CS → Prop) (hf : wp_X5_beginWith s0 s1 Q) : Met l yX5_beginWith (wsA yX5_beginWith cX5_beginWith 4 none) ({ frames := 2, cells := 0, slots := 0, locals := 40 }) (PW D cI cZ cW [.ref (q0 0), .ref (q1 0)] (wW cI cZ q0 s0 ++ wD cI cZ q1 s1) sz) (va_Qv (fun (u : CS × CS) => Q u.1 u.2) (fun u t => va_P D classes (wW cI cZ q0 u.1 ++ wD cI cZ q1 u.2) t.heap) (va_A (wW cI cZ q0 s0 ++ wD cI cZ q1 s1) sz)) 0 0 (va_A (wW cI cZ q0 s0 ++ wD cI cZ q1 s1) sz) := by
  refine Met.ofW (cc := cX5_beginWith) (maxL := 4) (ret := none) (by decide) rfl ?_
  intro p e s m args below meth c s₁ B hml hv
  obtain ⟨rfl, hsz, hP, hK, hD0⟩ := hv
  have hx := B.exec
  have hb := B.bytes
  have hr := B.returns
  have hts := atoms_spec (ws := (wsA yX5_beginWith cX5_beginWith 4 none)) B.pre
  have ht : ∀ w ∈ lw_g, w.before _ s = true := fun w h => hts w (List.mem_cons_of_mem _ h)
  have hown : s.vm.findClass RX5 = some m.cls := findClass_of_methodNamed B.named
  have hlocks := B.notSynchronized
  subst hsz
  have hD := hD0.self (sz := s.heap.size)
  generalize hAe : va_A (wW cI cZ q0 s0 ++ wD cI cZ q1 s1) s.heap.size = A at hD ⊢
  have hA : ∀ q : Nat, s.heap.size ≤ q → A q := fun q h => by rw [← hAe]; exact Or.inr h
  have hS : va_S A s.heap s.heap [] := va_S.rf
  have hl := lv_entry ([.ref (q0 0), .ref (q1 0)]) (n := 4) (Nat.le_of_ble_eq_true rfl)
  rw [lg_entry_eq]
  generalize (lg_sl ([.ref (q0 0), .ref (q1 0)]) ++ List.replicate (4 - (lg_sl ([.ref (q0 0), .ref (q1 0)])).length) Slot.unset).toArray = ls at hl ⊢
  have hl : lv_has ls 4 [(0, .ref (q0 0)), (1, .ref (q1 0))] := hl
  unfold wp_X5_beginWith at hf
  have k_2 : ∀ (x2 : Int32) (s0 : CS) (s1 : CS) (H : Heap) (locs : List Loc) (ls : Array Slot), B_X5_beginWith_2  x2 s0 s1 Q → va_P D classes (wW cI cZ q0 s0 ++ wD cI cZ q1 s1) H → va_D A (wW cI cZ q0 s0 ++ wD cI cZ q1 s1) → va_S A s.heap H locs → lv_has ls 4 [(0, .ref (q0 0)), (1, .ref (q1 0)), (2, .int x2)] → W p l e (headSpec (wsA yX5_beginWith cX5_beginWith 4 none) ({ frames := 2, cells := 0, slots := 0, locals := 40 })).room s m (#[.ref (q0 0), .ref (q1 0)] : Array Value) below meth c H locs 0 0 (MQ below (va_Qv (fun (u : CS × CS) => Q u.1 u.2) (fun u t => va_P D classes (wW cI cZ q0 u.1 ++ wD cI cZ q1 u.2) t.heap) A) (#[.ref (q0 0), .ref (q1 0)] : Array Value) s 0 0 A) (F0 m 2 ls []) := by
    intro x2 s0 s1 H locs ls hf hP hD hS hl
    unfold B_X5_beginWith_2 at hf
    obtain ⟨I_2, ⟨n0_2, hI0_2⟩, hst_2⟩ := hf
    have main_2 : ∀ (n : Nat) (x2 : Int32) (s0 : CS) (s1 : CS) (H : Heap) (locs : List Loc) (ls : Array Slot), I_2 n (x2, s0, s1) → va_P D classes (wW cI cZ q0 s0 ++ wD cI cZ q1 s1) H → va_D A (wW cI cZ q0 s0 ++ wD cI cZ q1 s1) → va_S A s.heap H locs → lv_has ls 4 [(0, .ref (q0 0)), (1, .ref (q1 0)), (2, .int x2)] → W p l e (headSpec (wsA yX5_beginWith cX5_beginWith 4 none) ({ frames := 2, cells := 0, slots := 0, locals := 40 })).room s m (#[.ref (q0 0), .ref (q1 0)] : Array Value) below meth c H locs 0 0 (MQ below (va_Qv (fun (u : CS × CS) => Q u.1 u.2) (fun u t => va_P D classes (wW cI cZ q0 u.1 ++ wD cI cZ q1 u.2) t.heap) A) (#[.ref (q0 0), .ref (q1 0)] : Array Value) s 0 0 A) (F0 m 2 ls []) := by
      intro n
      induction n using Nat.strongRecOn with
      | _ n_2 ih_2 =>
      intro x2 s0 s1 H locs ls hI hP hD hS hl
      have hf : LB_X5_beginWith_2 (fun z => ∃ k, k < n_2 ∧ I_2 k z)  x2 s0 s1 Q := hst_2 n_2 (x2, s0, s1) hI
      have hG_2 : ∀ (x2 : Int32) (s0 : CS) (s1 : CS) (H : Heap) (locs : List Loc) (ls : Array Slot), (∃ k, k < n_2 ∧ I_2 k (x2, s0, s1)) → va_P D classes (wW cI cZ q0 s0 ++ wD cI cZ q1 s1) H → va_D A (wW cI cZ q0 s0 ++ wD cI cZ q1 s1) → va_S A s.heap H locs → lv_has ls 4 [(0, .ref (q0 0)), (1, .ref (q1 0)), (2, .int x2)] → W p l e (headSpec (wsA yX5_beginWith cX5_beginWith 4 none) ({ frames := 2, cells := 0, slots := 0, locals := 40 })).room s m (#[.ref (q0 0), .ref (q1 0)] : Array Value) below meth c H locs 0 0 (MQ below (va_Qv (fun (u : CS × CS) => Q u.1 u.2) (fun u t => va_P D classes (wW cI cZ q0 u.1 ++ wD cI cZ q1 u.2) t.heap) A) (#[.ref (q0 0), .ref (q1 0)] : Array Value) s 0 0 A) (F0 m 2 ls []) := by
        rintro x2 s0 s1 H locs ls ⟨k, hk, hI⟩ hP hD hS hl
        exact ih_2 k hk x2 s0 s1 H locs ls hI hP hD hS hl
      unfold LB_X5_beginWith_2 at hf
      have k_56 : ∀ (x2 : Int32) (t0 : Int32) (t1 : Int32) (s0 : CS) (s1 : CS) (H : Heap) (locs : List Loc) (ls : Array Slot), B_X5_beginWith_56 (fun z => ∃ k, k < n_2 ∧ I_2 k z)  x2 t0 t1 s0 s1 Q → va_P D classes (wW cI cZ q0 s0 ++ wD cI cZ q1 s1) H → va_D A (wW cI cZ q0 s0 ++ wD cI cZ q1 s1) → va_S A s.heap H locs → lv_has ls 4 [(0, .ref (q0 0)), (1, .ref (q1 0)), (2, .int x2)] → W p l e (headSpec (wsA yX5_beginWith cX5_beginWith 4 none) ({ frames := 2, cells := 0, slots := 0, locals := 40 })).room s m (#[.ref (q0 0), .ref (q1 0)] : Array Value) below meth c H locs 0 0 (MQ below (va_Qv (fun (u : CS × CS) => Q u.1 u.2) (fun u t => va_P D classes (wW cI cZ q0 u.1 ++ wD cI cZ q1 u.2) t.heap) A) (#[.ref (q0 0), .ref (q1 0)] : Array Value) s 0 0 A) (F0 m 56 ls [.int t0, .int t1, .ref (q0 2)]) := by
        intro x2 t0 t1 s0 s1 H locs ls hf hP hD hS hl
        unfold B_X5_beginWith_56 at hf
        obtain ⟨hi_1, hf⟩ := hf
        refine va_iast hx hb hK hP hD hS 2 0 rfl rfl hi_1 dX5_beginWith_56 (fun H locs hP hD hS => ?_)
        obtain ⟨s0_2, es0_2⟩ : ∃ y : CS, y = sA s0 1 t1.toNatClampNeg t0 := ⟨_, rfl⟩
        have hf := hf s0_2 es0_2
        have hP : va_P D classes (wW cI cZ q0 s0_2 ++ wD cI cZ q1 s1) H := by rw [es0_2]; exact hP
        have hD : va_D A (wW cI cZ q0 s0_2 ++ wD cI cZ q1 s1) := by rw [es0_2]; exact hD
        refine lv_aload_n hx hb dX5_beginWith_57 rfl (lv_at hl 0 rfl) ?_
        refine va_get (D := D) (ci := 3) (v := .ref (q0 3)) (C := RX5) (T := TX5) (N := 6) hx hb ht inX5 hown hK hP 0 rfl rfl 2 (by decide) (ht _ tw_94) (fun _ h9 => h9) rfl dX5_beginWith_58 ?_
        refine lv_iload_n hx hb dX5_beginWith_61 rfl (lv_at hl 2 rfl) ?_
        refine lv_bipush (v := (-9 : Int32)) hx hb dX5_beginWith_62 (by decide) ?_
        obtain ⟨hi_3, hf⟩ := hf
        refine va_iast hx hb hK hP hD hS 3 0 rfl rfl hi_3 dX5_beginWith_64 (fun H locs hP hD hS => ?_)
        obtain ⟨s0_4, es0_4⟩ : ∃ y : CS, y = sA s0_2 2 x2.toNatClampNeg (-9 : Int32) := ⟨_, rfl⟩
        have hf := hf s0_4 es0_4
        have hP : va_P D classes (wW cI cZ q0 s0_4 ++ wD cI cZ q1 s1) H := by rw [es0_4]; exact hP
        have hD : va_D A (wW cI cZ q0 s0_4 ++ wD cI cZ q1 s1) := by rw [es0_4]; exact hD
        obtain ⟨x2_5, ex2_5⟩ : ∃ y : Int32, y = x2 + (1 : Int32) := ⟨_, rfl⟩
        have hf := hf x2_5 ex2_5
        refine lv_iinc (v := x2_5) (lv' := [(2, .int x2_5), (0, .ref (q0 0)), (1, .ref (q1 0))]) hx hb dX5_beginWith_65 hl (k := 2) rfl (by rw [ex2_5]; rfl) (by decide) rfl (fun ls hl => ?_)
        refine lv_goto (tgt := 2) hx hb dX5_beginWith_68 (by decide) ?_
        exact hG_2 x2_5 s0_4 s1 H locs ls hf hP hD hS (lv_sub hl [1, 2, 0] rfl)
      have k_35 : ∀ (x2 : Int32) (x3 : Int32) (t0 : Int32) (t1 : Int32) (s0 : CS) (s1 : CS) (H : Heap) (locs : List Loc) (ls : Array Slot), B_X5_beginWith_35 (fun z => ∃ k, k < n_2 ∧ I_2 k z)  x2 x3 t0 t1 s0 s1 Q → va_P D classes (wW cI cZ q0 s0 ++ wD cI cZ q1 s1) H → va_D A (wW cI cZ q0 s0 ++ wD cI cZ q1 s1) → va_S A s.heap H locs → lv_has ls 4 [(0, .ref (q0 0)), (1, .ref (q1 0)), (2, .int x2), (3, .int x3)] → W p l e (headSpec (wsA yX5_beginWith cX5_beginWith 4 none) ({ frames := 2, cells := 0, slots := 0, locals := 40 })).room s m (#[.ref (q0 0), .ref (q1 0)] : Array Value) below meth c H locs 0 0 (MQ below (va_Qv (fun (u : CS × CS) => Q u.1 u.2) (fun u t => va_P D classes (wW cI cZ q0 u.1 ++ wD cI cZ q1 u.2) t.heap) A) (#[.ref (q0 0), .ref (q1 0)] : Array Value) s 0 0 A) (F0 m 35 ls [.int t0, .int t1, .ref (q0 1)]) := by
        intro x2 x3 t0 t1 s0 s1 H locs ls hf hP hD hS hl
        unfold B_X5_beginWith_35 at hf
        obtain ⟨hi_6, hf⟩ := hf
        refine va_iast hx hb hK hP hD hS 1 0 rfl rfl hi_6 dX5_beginWith_35 (fun H locs hP hD hS => ?_)
        obtain ⟨s0_7, es0_7⟩ : ∃ y : CS, y = sA s0 0 t1.toNatClampNeg t0 := ⟨_, rfl⟩
        have hf := hf s0_7 es0_7
        have hP : va_P D classes (wW cI cZ q0 s0_7 ++ wD cI cZ q1 s1) H := by rw [es0_7]; exact hP
        have hD : va_D A (wW cI cZ q0 s0_7 ++ wD cI cZ q1 s1) := by rw [es0_7]; exact hD
        refine lv_aload_n hx hb dX5_beginWith_36 rfl (lv_at hl 0 rfl) ?_
        refine va_get (D := D) (ci := 3) (v := .ref (q0 2)) (C := RX5) (T := TX5) (N := 6) hx hb ht inX5 hown hK hP 0 rfl rfl 1 (by decide) (ht _ tw_92) (fun _ h9 => h9) rfl dX5_beginWith_37 ?_
        refine lv_iload_n hx hb dX5_beginWith_40 rfl (lv_at hl 2 rfl) ?_
        refine lv_iload_n hx hb dX5_beginWith_41 rfl (lv_at hl 3 rfl) ?_
        refine lv_if_eq (tgt := 54) hx hb dX5_beginWith_42 (by decide) (fun c_8 => ?_) (fun c_8 => ?_)
        · have hf := hf.1 c_8
          refine lv_bipush (v := (-9 : Int32)) hx hb dX5_beginWith_54 (by decide) ?_
          exact k_56 x2 (-9 : Int32) x2 s0_7 s1 H locs ls hf hP hD hS (lv_sub hl [0, 1, 2] rfl)
        · have hf := hf.2 c_8
          refine lv_aload_n hx hb dX5_beginWith_45 rfl (lv_at hl 1 rfl) ?_
          refine va_get (D := D) (ci := 1) (v := .ref (q1 4)) (C := RX1) (T := TX1) (N := 14) hx hb ht inX1 hown hK hP 5 rfl rfl 5 (by decide) (ht _ tw_43) (fun _ h9 => h9) rfl dX5_beginWith_46 ?_
          refine lv_iload_n hx hb dX5_beginWith_49 rfl (lv_at hl 2 rfl) ?_
          obtain ⟨hi_9, hf⟩ := hf
          refine va_iald hx hb hK hP 9 0 rfl rfl hi_9 dX5_beginWith_50 ?_
          refine lv_goto (tgt := 56) hx hb dX5_beginWith_51 (by decide) ?_
          exact k_56 x2 ((s1.2.1 5) x2.toNatClampNeg) x2 s0_7 s1 H locs ls hf hP hD hS (lv_sub hl [0, 1, 2] rfl)
      refine lv_iload_n hx hb dX5_beginWith_2 rfl (lv_at hl 2 rfl) ?_
      refine lv_iconst (v := (5 : Int32)) hx hb dX5_beginWith_3 (by decide) ?_
      refine lv_icmp_ge (tgt := 71) hx hb dX5_beginWith_4 (by decide) (fun c_10 => ?_) (fun c_10 => ?_)
      · have hf := hf.1 c_10
        refine lv_aload_n hx hb dX5_beginWith_71 rfl (lv_at hl 0 rfl) ?_
        refine va_get (D := D) (ci := 3) (v := .ref (q0 4)) (C := RX5) (T := TX5) (N := 6) hx hb ht inX5 hown hK hP 0 rfl rfl 3 (by decide) (ht _ tw_96) (fun _ h9 => h9) rfl dX5_beginWith_72 ?_
        refine lv_iconst (v := (0 : Int32)) hx hb dX5_beginWith_75 (by decide) ?_
        have hPc : va_P D classes (wI cI (q0 4) 4 (s0.2.1 3)) H := hP.sub [4] rfl
        have hDc : va_D A (wI cI (q0 4) 4 (s0.2.1 3)) := hD.sub [4] (by decide) rfl
        have hFc := va_free (wc := (wI cI (q0 4) 4 (s0.2.1 3))) hD hS hA [4] rfl
        refine va_callv (va_runS (As := [.ref (q0 4), .int (0 : Int32)]) (rest := []) ⟨hx, hb, hml, hown, hts⟩ (c_J7_fill_53178 l D cI cZ cW (q0 4) H.size (0 : Int32) 4 (s0.2.1 3) _ hf) ⟨callB_of 2 hts (gA tw_29) rfl rfl rfl (ht _ tw_3) (ht _ tw_90) hd_J7_fill_53178 ⟨Nat.le_of_ble_eq_true rfl, Nat.le_of_ble_eq_true rfl⟩, ht _ tw_28⟩ ⟨PW_blind, fun U hU hW => PW_mk hPc hDc hK hU hW⟩ rfl rfl hl.1 rfl (lv_room (Nat.le_of_ble_eq_true rfl)) dX5_beginWith_76 ⟨Nat.zero_le _, Nat.zero_le _⟩) hS (fun q _ h => hFc q h) hFc (fun u t H1 locs ht1 hvm hf hB hz1 hk1 hS => ?_)
        obtain ⟨f_11, rfl⟩ : ∃ z, z = u := ⟨_, rfl⟩
        rw [ht1] at hB
        obtain ⟨hP, hD⟩ := cj [4] (wI cI (q0 4) 4 (s0.2.1 3)) (wI cI (q0 4) 4 f_11) hP hD rfl rfl hk1 hB
        generalize H1 = H at hP hS ⊢
        obtain ⟨s0_12, es0_12⟩ : ∃ y : CS, y = sF s0 3 f_11 := ⟨_, rfl⟩
        have hf := hf s0_12 es0_12
        have hP : va_P D classes (wW cI cZ q0 s0_12 ++ wD cI cZ q1 s1) H := by rw [es0_12]; exact hP
        have hD : va_D A (wW cI cZ q0 s0_12 ++ wD cI cZ q1 s1) := by rw [es0_12]; exact hD
        refine lv_aload_n hx hb dX5_beginWith_79 rfl (lv_at hl 0 rfl) ?_
        refine lv_iconst (v := (0 : Int32)) hx hb dX5_beginWith_80 (by decide) ?_
        refine va_put (D := D) (ci := 3) (v := .int (0 : Int32)) (ty := .int) (C := RX5) (T := TX5) (N := 6) hx hb ht inX5 tyX5 tyX5_ok nmX5 hown hK hP hD hS 0 rfl rfl 4 (by decide) (ht _ tw_98) (fun _ h9 => h9) rfl pf_I rfl rfl (Nat.le_of_ble_eq_true rfl) dX5_beginWith_81 (fun H locs hP hD hS => ?_)
        obtain ⟨s0_13, es0_13⟩ : ∃ y : CS, y = sI s0_12 4 (0 : Int32) := ⟨_, rfl⟩
        have hf := hf s0_13 es0_13
        have hP : va_P D classes (wW cI cZ q0 s0_13 ++ wD cI cZ q1 s1) H := by rw [es0_13]; exact hP
        have hD : va_D A (wW cI cZ q0 s0_13 ++ wD cI cZ q1 s1) := by rw [es0_13]; exact hD
        refine lv_aload_n hx hb dX5_beginWith_84 rfl (lv_at hl 0 rfl) ?_
        refine lv_iconst (v := (0 : Int32)) hx hb dX5_beginWith_85 (by decide) ?_
        refine va_put (D := D) (ci := 3) (v := .int (0 : Int32)) (ty := .int) (C := RX5) (T := TX5) (N := 6) hx hb ht inX5 tyX5 tyX5_ok nmX5 hown hK hP hD hS 0 rfl rfl 5 (by decide) (ht _ tw_100) (fun _ h9 => h9) rfl pf_I rfl rfl (Nat.le_of_ble_eq_true rfl) dX5_beginWith_86 (fun H locs hP hD hS => ?_)
        obtain ⟨s0_14, es0_14⟩ : ∃ y : CS, y = sI s0_13 5 (0 : Int32) := ⟨_, rfl⟩
        have hf := hf s0_14 es0_14
        have hP : va_P D classes (wW cI cZ q0 s0_14 ++ wD cI cZ q1 s1) H := by rw [es0_14]; exact hP
        have hD : va_D A (wW cI cZ q0 s0_14 ++ wD cI cZ q1 s1) := by rw [es0_14]; exact hD
        exact W.vret hx hb hr (fun t ht hW => ⟨⟨(s0_14, s1), rfl, hf, P_heap ht hP⟩, hS.F ht⟩) hS.2.2 dX5_beginWith_89
      · have hf := hf.2 c_10
        refine lv_aload_n hx hb dX5_beginWith_7 rfl (lv_at hl 1 rfl) ?_
        refine lv_iload_n hx hb dX5_beginWith_8 rfl (lv_at hl 2 rfl) ?_
        have hPc : va_P D classes (wD cI cZ q1 s1) H := hP.sub [5, 6, 7, 8, 9, 10] rfl
        refine vp_callSi (W.runV (As := [.int x2]) (rest := []) ⟨hx, hb, hml, hown, hts⟩ (c_X1_hasHole l D cI cZ cW q1 x2 s1 _ hf) ⟨callB_of 1 hts (gA tw_265) rfl rfl rfl (ht _ tw_2) (ht _ tw_262) hd_X1_hasHole ⟨Nat.le_of_ble_eq_true rfl, Nat.le_of_ble_eq_true rfl⟩, ht _ tw_263, ht _ tw_264⟩ ⟨PR_blind, va_recv hK hP (ci := 1) (q0 := 5) rfl rfl, fun U hU hW => PR_mk hPc hK hU hW⟩ rfl rfl hl.1 rfl (lv_room (Nat.le_of_ble_eq_true rfl)) dX5_beginWith_9 ⟨Nat.zero_le _, Nat.zero_le _⟩) (fun r_15 hf => ?_)
        refine lv_istore_n (lv' := [(3, .int r_15), (0, .ref (q0 0)), (1, .ref (q1 0)), (2, .int x2)]) hx hb dX5_beginWith_12 rfl hl (by decide) rfl (fun ls hl => ?_)
        refine lv_aload_n hx hb dX5_beginWith_13 rfl (lv_at hl 1 rfl) ?_
        refine va_get (D := D) (ci := 3) (v := .ref (q0 1)) (C := RX5) (T := TX5) (N := 6) hx hb ht inX5 hown hK hP 0 rfl rfl 0 (by decide) (ht _ tw_91) (fun _ h9 => h9) rfl dX5_beginWith_14 ?_
        refine lv_iload_n hx hb dX5_beginWith_17 rfl (lv_at hl 3 rfl) ?_
        refine lv_iload_n hx hb dX5_beginWith_18 rfl (lv_at hl 0 rfl) ?_
        refine lv_if_eq (tgt := 34) hx hb dX5_beginWith_19 (by decide) (fun c_16 => ?_) (fun c_16 => ?_)
        · have hf := hf.1 c_16
          refine lv_iconst (v := (0 : Int32)) hx hb dX5_beginWith_34 (by decide) ?_
          exact k_35 x2 r_15 (0 : Int32) x2 s0 s1 H locs ls hf hP hD hS (lv_sub hl [1, 2, 3, 0] rfl)
        · have hf := hf.2 c_16
          refine lv_aload_n hx hb dX5_beginWith_22 rfl (lv_at hl 2 rfl) ?_
          refine va_get (D := D) (ci := 1) (v := .ref (q1 5)) (C := RX1) (T := TX1) (N := 14) hx hb ht inX1 hown hK hP 5 rfl rfl 6 (by decide) (ht _ tw_45) (fun _ h9 => h9) rfl dX5_beginWith_23 ?_
          refine lv_iload_n hx hb dX5_beginWith_26 rfl (lv_at hl 3 rfl) ?_
          obtain ⟨hi_17, hf⟩ := hf
          refine va_iald hx hb hK hP 10 0 rfl rfl hi_17 dX5_beginWith_27 ?_
          have hPc : va_P D classes ([] : va_W) H := hP.sub [] rfl
          refine vp_callSi (W.runS (As := [.int ((s1.2.1 6) x2.toNatClampNeg)]) (rest := [.int x2, .ref (q0 1)]) ⟨hx, hb, hml, hown, hts⟩ (c_X2_bitOf l D cI cZ cW  ((s1.2.1 6) x2.toNatClampNeg) _ hf) ⟨callB_of 1 hts (gA tw_248) rfl rfl rfl (ht _ tw_9) (ht _ tw_266) hd_X2_bitOf ⟨Nat.le_of_ble_eq_true rfl, Nat.le_of_ble_eq_true rfl⟩, ht _ tw_247⟩ ⟨PR_blind, fun U hU hW => PR_mk hPc hK hU hW⟩ rfl rfl hl.1 rfl (lv_room (Nat.le_of_ble_eq_true rfl)) dX5_beginWith_28 ⟨Nat.zero_le _, Nat.zero_le _⟩) (fun r_18 hf => ?_)
          refine lv_goto (tgt := 35) hx hb dX5_beginWith_31 (by decide) ?_
          exact k_35 x2 r_15 r_18 x2 s0 s1 H locs ls hf hP hD hS (lv_sub hl [1, 2, 3, 0] rfl)
    exact main_2 n0_2 x2 s0 s1 H locs ls hI0_2 hP hD hS hl
  have start : ∀ (H : Heap) (locs : List Loc), va_P D classes (wW cI cZ q0 s0 ++ wD cI cZ q1 s1) H → va_D A (wW cI cZ q0 s0 ++ wD cI cZ q1 s1) → va_S A s.heap H locs → W p l e (headSpec (wsA yX5_beginWith cX5_beginWith 4 none) ({ frames := 2, cells := 0, slots := 0, locals := 40 })).room s m (#[.ref (q0 0), .ref (q1 0)] : Array Value) below meth c H locs 0 0 (MQ below (va_Qv (fun (u : CS × CS) => Q u.1 u.2) (fun u t => va_P D classes (wW cI cZ q0 u.1 ++ wD cI cZ q1 u.2) t.heap) A) (#[.ref (q0 0), .ref (q1 0)] : Array Value) s 0 0 A) (F0 m 0 ls []) := by
    intro H locs hP hD hS
    refine lv_iconst (v := (0 : Int32)) hx hb dX5_beginWith_0 (by decide) ?_
    refine lv_istore_n (lv' := [(2, .int (0 : Int32)), (0, .ref (q0 0)), (1, .ref (q1 0))]) hx hb dX5_beginWith_1 rfl hl (by decide) rfl (fun ls hl => ?_)
    exact k_2 (0 : Int32) s0 s1 H locs ls hf hP hD hS (lv_sub hl [1, 2, 0] rfl)
  exact start s.heap [] hP hD hS
def wp_X5_putLoneHole (p0 : Int32) (s0 : CS) (Q : CS → Prop) : Prop := wp_X2_bitOf p0 (fun r_1 => vp_in (0 : Int32) 5 ∧ ∀ s0_3 : CS, s0_3 = sA s0 0 (0 : Int32).toNatClampNeg r_1 → Q s0_3)
set_option maxHeartbeats 4000000 in
set_option maxRecDepth 100000 in
theorem c_X5_putLoneHole (l : Launch) (D : va_G) (cI cZ cW : ClassId) (q0 : Nat → Nat) (sz : Nat) (p0 : Int32) (s0 : CS) (Q : CS → Prop) (hf : wp_X5_putLoneHole p0 s0 Q) : Met l yX5_putLoneHole (wsA yX5_putLoneHole cX5_putLoneHole 2 none) ({ frames := 2, cells := 0, slots := 0, locals := 40 }) (PW D cI cZ cW [.ref (q0 0), .int p0] (wW cI cZ q0 s0) sz) (va_Qv (fun (u : CS) => Q u) (fun u t => va_P D classes (wW cI cZ q0 u) t.heap) (va_A (wW cI cZ q0 s0) sz)) 0 0 (va_A (wW cI cZ q0 s0) sz) := by
  refine Met.ofW (cc := cX5_putLoneHole) (maxL := 2) (ret := none) (by decide) rfl ?_
  intro p e s m args below meth c s₁ B hml hv
  obtain ⟨rfl, hsz, hP, hK, hD0⟩ := hv
  have hx := B.exec
  have hb := B.bytes
  have hr := B.returns
  have hts := atoms_spec (ws := (wsA yX5_putLoneHole cX5_putLoneHole 2 none)) B.pre
  have ht : ∀ w ∈ lw_g, w.before _ s = true := fun w h => hts w (List.mem_cons_of_mem _ h)
  have hown : s.vm.findClass RX5 = some m.cls := findClass_of_methodNamed B.named
  have hlocks := B.notSynchronized
  subst hsz
  have hD := hD0.self (sz := s.heap.size)
  generalize hAe : va_A (wW cI cZ q0 s0) s.heap.size = A at hD ⊢
  have hA : ∀ q : Nat, s.heap.size ≤ q → A q := fun q h => by rw [← hAe]; exact Or.inr h
  have hS : va_S A s.heap s.heap [] := va_S.rf
  have hl := lv_entry ([.ref (q0 0), .int p0]) (n := 2) (Nat.le_of_ble_eq_true rfl)
  rw [lg_entry_eq]
  generalize (lg_sl ([.ref (q0 0), .int p0]) ++ List.replicate (2 - (lg_sl ([.ref (q0 0), .int p0])).length) Slot.unset).toArray = ls at hl ⊢
  have hl : lv_has ls 2 [(0, .ref (q0 0)), (1, .int p0)] := hl
  unfold wp_X5_putLoneHole at hf
  have start : ∀ (H : Heap) (locs : List Loc), va_P D classes (wW cI cZ q0 s0) H → va_D A (wW cI cZ q0 s0) → va_S A s.heap H locs → W p l e (headSpec (wsA yX5_putLoneHole cX5_putLoneHole 2 none) ({ frames := 2, cells := 0, slots := 0, locals := 40 })).room s m (#[.ref (q0 0), .int p0] : Array Value) below meth c H locs 0 0 (MQ below (va_Qv (fun (u : CS) => Q u) (fun u t => va_P D classes (wW cI cZ q0 u) t.heap) A) (#[.ref (q0 0), .int p0] : Array Value) s 0 0 A) (F0 m 0 ls []) := by
    intro H locs hP hD hS
    refine lv_aload_n hx hb dX5_putLoneHole_0 rfl (lv_at hl 0 rfl) ?_
    refine va_get (D := D) (ci := 3) (v := .ref (q0 1)) (C := RX5) (T := TX5) (N := 6) hx hb ht inX5 hown hK hP 0 rfl rfl 0 (by decide) (ht _ tw_91) (fun _ h9 => h9) rfl dX5_putLoneHole_1 ?_
    refine lv_iconst (v := (0 : Int32)) hx hb dX5_putLoneHole_4 (by decide) ?_
    refine lv_iload_n hx hb dX5_putLoneHole_5 rfl (lv_at hl 1 rfl) ?_
    have hPc : va_P D classes ([] : va_W) H := hP.sub [] rfl
    refine vp_callSi (W.runS (As := [.int p0]) (rest := [.int (0 : Int32), .ref (q0 1)]) ⟨hx, hb, hml, hown, hts⟩ (c_X2_bitOf l D cI cZ cW  p0 _ hf) ⟨callB_of 1 hts (gA tw_248) rfl rfl rfl (ht _ tw_9) (ht _ tw_266) hd_X2_bitOf ⟨Nat.le_of_ble_eq_true rfl, Nat.le_of_ble_eq_true rfl⟩, ht _ tw_247⟩ ⟨PR_blind, fun U hU hW => PR_mk hPc hK hU hW⟩ rfl rfl hl.1 rfl (lv_room (Nat.le_of_ble_eq_true rfl)) dX5_putLoneHole_6 ⟨Nat.zero_le _, Nat.zero_le _⟩) (fun r_1 hf => ?_)
    obtain ⟨hi_2, hf⟩ := hf
    refine va_iast hx hb hK hP hD hS 1 0 rfl rfl hi_2 dX5_putLoneHole_9 (fun H locs hP hD hS => ?_)
    obtain ⟨s0_3, es0_3⟩ : ∃ y : CS, y = sA s0 0 (0 : Int32).toNatClampNeg r_1 := ⟨_, rfl⟩
    have hf := hf s0_3 es0_3
    have hP : va_P D classes (wW cI cZ q0 s0_3) H := by rw [es0_3]; exact hP
    have hD : va_D A (wW cI cZ q0 s0_3) := by rw [es0_3]; exact hD
    exact W.vret hx hb hr (fun t ht hW => ⟨⟨s0_3, rfl, hf, P_heap ht hP⟩, hS.F ht⟩) hS.2.2 dX5_putLoneHole_10
  exact start s.heap [] hP hD hS
def wp_X5_cellsOfHole (p0 : Int32) (s0 : CS) (Q : Int32 → Prop) : Prop := ((p0 < 0 → Q (0 : Int32)) ∧ (¬ p0 < 0 → (((5 : Int32) ≤ p0 → Q (0 : Int32)) ∧ (¬ (5 : Int32) ≤ p0 → vp_in p0 5 ∧ Q ((s0.2.1 0) p0.toNatClampNeg)))))
set_option maxHeartbeats 4000000 in
set_option maxRecDepth 100000 in
theorem c_X5_cellsOfHole (l : Launch) (D : va_G) (cI cZ cW : ClassId) (q0 : Nat → Nat) (p0 : Int32) (s0 : CS) (Q : Int32 → Prop) (hf : wp_X5_cellsOfHole p0 s0 Q) : Met l yX5_cellsOfHole (wsA yX5_cellsOfHole cX5_cellsOfHole 2 (some .int)) ({ frames := 0, cells := 0, slots := 0, locals := 0 }) (PR D cI cZ cW [.ref (q0 0), .int p0] (wW cI cZ q0 s0)) (vp_Si Q) 0 0 (fun _ => False) := by
  refine Met.ofW (cc := cX5_cellsOfHole) (maxL := 2) (ret := (some .int)) (by decide) rfl ?_
  intro p e s m args below meth c s₁ B hml hv
  obtain ⟨rfl, hP, hK⟩ := hv
  have hx := B.exec
  have hb := B.bytes
  have hr := B.returns
  have hts := atoms_spec (ws := (wsA yX5_cellsOfHole cX5_cellsOfHole 2 (some .int))) B.pre
  have ht : ∀ w ∈ lw_g, w.before _ s = true := fun w h => hts w (List.mem_cons_of_mem _ h)
  have hown : s.vm.findClass RX5 = some m.cls := findClass_of_methodNamed B.named
  have hlocks := B.notSynchronized
  have hl := lv_entry ([.ref (q0 0), .int p0]) (n := 2) (Nat.le_of_ble_eq_true rfl)
  rw [lg_entry_eq]
  generalize (lg_sl ([.ref (q0 0), .int p0]) ++ List.replicate (2 - (lg_sl ([.ref (q0 0), .int p0])).length) Slot.unset).toArray = ls at hl ⊢
  have hl : lv_has ls 2 [(0, .ref (q0 0)), (1, .int p0)] := hl
  unfold wp_X5_cellsOfHole at hf
  refine lv_iload_n hx hb dX5_cellsOfHole_0 rfl (lv_at hl 1 rfl) ?_
  refine lv_if_lt (tgt := 18) hx hb dX5_cellsOfHole_1 (by decide) (fun c_1 => ?_) (fun c_1 => ?_)
  · have hf := hf.1 c_1
    refine lv_iconst (v := (0 : Int32)) hx hb dX5_cellsOfHole_18 (by decide) ?_
    exact W.iret (v := (0 : Int32)) hx hb hr (fun t ht hW => ⟨(0 : Int32), rfl, hf, ht⟩) (fun q h => absurd h List.not_mem_nil) dX5_cellsOfHole_19
  · have hf := hf.2 c_1
    refine lv_iload_n hx hb dX5_cellsOfHole_4 rfl (lv_at hl 1 rfl) ?_
    refine lv_iconst (v := (5 : Int32)) hx hb dX5_cellsOfHole_5 (by decide) ?_
    refine lv_icmp_ge (tgt := 18) hx hb dX5_cellsOfHole_6 (by decide) (fun c_2 => ?_) (fun c_2 => ?_)
    · have hf := hf.1 c_2
      refine lv_iconst (v := (0 : Int32)) hx hb dX5_cellsOfHole_18 (by decide) ?_
      exact W.iret (v := (0 : Int32)) hx hb hr (fun t ht hW => ⟨(0 : Int32), rfl, hf, ht⟩) (fun q h => absurd h List.not_mem_nil) dX5_cellsOfHole_19
    · have hf := hf.2 c_2
      refine lv_aload_n hx hb dX5_cellsOfHole_9 rfl (lv_at hl 0 rfl) ?_
      refine va_get (D := D) (ci := 3) (v := .ref (q0 1)) (C := RX5) (T := TX5) (N := 6) hx hb ht inX5 hown hK hP 0 rfl rfl 0 (by decide) (ht _ tw_91) (fun _ h9 => h9) rfl dX5_cellsOfHole_10 ?_
      refine lv_iload_n hx hb dX5_cellsOfHole_13 rfl (lv_at hl 1 rfl) ?_
      obtain ⟨hi_3, hf⟩ := hf
      refine va_iald hx hb hK hP 1 0 rfl rfl hi_3 dX5_cellsOfHole_14 ?_
      refine lv_goto (tgt := 19) hx hb dX5_cellsOfHole_15 (by decide) ?_
      exact W.iret (v := ((s0.2.1 0) p0.toNatClampNeg)) hx hb hr (fun t ht hW => ⟨((s0.2.1 0) p0.toNatClampNeg), rfl, hf, ht⟩) (fun q h => absurd h List.not_mem_nil) dX5_cellsOfHole_19
def wp_X5_sizeOfHole (p0 : Int32) (s0 : CS) (Q : Int32 → Prop) : Prop := wp_X5_cellsOfHole p0 s0 (fun r_1 => wp_J6_bitCount_0f7a4 r_1 (fun r_2 => Q r_2))
set_option maxHeartbeats 4000000 in
set_option maxRecDepth 100000 in
theorem c_X5_sizeOfHole (l : Launch) (D : va_G) (cI cZ cW : ClassId) (q0 : Nat → Nat) (p0 : Int32) (s0 : CS) (Q : Int32 → Prop) (hf : wp_X5_sizeOfHole p0 s0 Q) : Met l yX5_sizeOfHole (wsA yX5_sizeOfHole cX5_sizeOfHole 2 (some .int)) ({ frames := 1, cells := 0, slots := 0, locals := 21 }) (PR D cI cZ cW [.ref (q0 0), .int p0] (wW cI cZ q0 s0)) (vp_Si Q) 0 0 (fun _ => False) := by
  refine Met.ofW (cc := cX5_sizeOfHole) (maxL := 2) (ret := (some .int)) (by decide) rfl ?_
  intro p e s m args below meth c s₁ B hml hv
  obtain ⟨rfl, hP, hK⟩ := hv
  have hx := B.exec
  have hb := B.bytes
  have hr := B.returns
  have hts := atoms_spec (ws := (wsA yX5_sizeOfHole cX5_sizeOfHole 2 (some .int))) B.pre
  have ht : ∀ w ∈ lw_g, w.before _ s = true := fun w h => hts w (List.mem_cons_of_mem _ h)
  have hown : s.vm.findClass RX5 = some m.cls := findClass_of_methodNamed B.named
  have hlocks := B.notSynchronized
  have hl := lv_entry ([.ref (q0 0), .int p0]) (n := 2) (Nat.le_of_ble_eq_true rfl)
  rw [lg_entry_eq]
  generalize (lg_sl ([.ref (q0 0), .int p0]) ++ List.replicate (2 - (lg_sl ([.ref (q0 0), .int p0])).length) Slot.unset).toArray = ls at hl ⊢
  have hl : lv_has ls 2 [(0, .ref (q0 0)), (1, .int p0)] := hl
  unfold wp_X5_sizeOfHole at hf
  refine lv_aload_n hx hb dX5_sizeOfHole_0 rfl (lv_at hl 0 rfl) ?_
  refine lv_iload_n hx hb dX5_sizeOfHole_1 rfl (lv_at hl 1 rfl) ?_
  have hPc : va_P D classes (wW cI cZ q0 s0) s.heap := hP
  refine vp_callSi (W.runV (As := [.int p0]) (rest := []) ⟨hx, hb, hml, hown, hts⟩ (c_X5_cellsOfHole l D cI cZ cW q0 p0 s0 _ hf) ⟨callB_of 1 hts (gA tw_317) rfl rfl rfl (ht _ tw_4) (ht _ tw_322) hd_X5_cellsOfHole ⟨Nat.le_of_ble_eq_true rfl, Nat.le_of_ble_eq_true rfl⟩, ht _ tw_315, ht _ tw_316⟩ ⟨PR_blind, va_recv hK hP (ci := 3) (q0 := 0) rfl rfl, fun U hU hW => PR_mk hPc hK hU hW⟩ rfl rfl hl.1 rfl (lv_room (Nat.le_of_ble_eq_true rfl)) dX5_sizeOfHole_2 ⟨Nat.zero_le _, Nat.zero_le _⟩) (fun r_1 hf => ?_)
  have hPc : va_P D classes ([] : va_W) s.heap := hP.sub [] rfl
  refine vp_callSi (W.runS (As := [.int r_1]) (rest := []) ⟨hx, hb, hml, hown, hts⟩ (c_J6_bitCount_0f7a4 l D cI cZ cW  r_1 _ hf) ⟨callB_of 1 hts (gA tw_305) rfl rfl rfl (ht _ tw_10) (ht _ tw_323) hd_J6_bitCount_0f7a4 ⟨Nat.le_of_ble_eq_true rfl, Nat.le_of_ble_eq_true rfl⟩, ht _ tw_304⟩ ⟨PR_blind, fun U hU hW => PR_mk hPc hK hU hW⟩ rfl rfl hl.1 rfl (lv_room (Nat.le_of_ble_eq_true rfl)) dX5_sizeOfHole_5 ⟨Nat.zero_le _, Nat.zero_le _⟩) (fun r_2 hf => ?_)
  exact W.iret (v := r_2) hx hb hr (fun t ht hW => ⟨r_2, rfl, hf, ht⟩) (fun q h => absurd h List.not_mem_nil) dX5_sizeOfHole_8
def wp_X5_isGone (p0 : Int32) (s0 : CS) (Q : Int32 → Prop) : Prop := wp_X5_cellsOfHole p0 s0 (fun r_1 => ((¬ r_1 = 0 → Q (0 : Int32)) ∧ (r_1 = 0 → Q (1 : Int32))))
set_option maxHeartbeats 4000000 in
set_option maxRecDepth 100000 in
theorem c_X5_isGone (l : Launch) (D : va_G) (cI cZ cW : ClassId) (q0 : Nat → Nat) (p0 : Int32) (s0 : CS) (Q : Int32 → Prop) (hf : wp_X5_isGone p0 s0 Q) : Met l yX5_isGone (wsA yX5_isGone cX5_isGone 2 (some .boolean)) ({ frames := 1, cells := 0, slots := 0, locals := 21 }) (PR D cI cZ cW [.ref (q0 0), .int p0] (wW cI cZ q0 s0)) (vp_Si Q) 0 0 (fun _ => False) := by
  refine Met.ofW (cc := cX5_isGone) (maxL := 2) (ret := (some .boolean)) (by decide) rfl ?_
  intro p e s m args below meth c s₁ B hml hv
  obtain ⟨rfl, hP, hK⟩ := hv
  have hx := B.exec
  have hb := B.bytes
  have hr := B.returns
  have hts := atoms_spec (ws := (wsA yX5_isGone cX5_isGone 2 (some .boolean))) B.pre
  have ht : ∀ w ∈ lw_g, w.before _ s = true := fun w h => hts w (List.mem_cons_of_mem _ h)
  have hown : s.vm.findClass RX5 = some m.cls := findClass_of_methodNamed B.named
  have hlocks := B.notSynchronized
  have hl := lv_entry ([.ref (q0 0), .int p0]) (n := 2) (Nat.le_of_ble_eq_true rfl)
  rw [lg_entry_eq]
  generalize (lg_sl ([.ref (q0 0), .int p0]) ++ List.replicate (2 - (lg_sl ([.ref (q0 0), .int p0])).length) Slot.unset).toArray = ls at hl ⊢
  have hl : lv_has ls 2 [(0, .ref (q0 0)), (1, .int p0)] := hl
  unfold wp_X5_isGone at hf
  refine lv_aload_n hx hb dX5_isGone_0 rfl (lv_at hl 0 rfl) ?_
  refine lv_iload_n hx hb dX5_isGone_1 rfl (lv_at hl 1 rfl) ?_
  have hPc : va_P D classes (wW cI cZ q0 s0) s.heap := hP
  refine vp_callSi (W.runV (As := [.int p0]) (rest := []) ⟨hx, hb, hml, hown, hts⟩ (c_X5_cellsOfHole l D cI cZ cW q0 p0 s0 _ hf) ⟨callB_of 1 hts (gA tw_317) rfl rfl rfl (ht _ tw_4) (ht _ tw_322) hd_X5_cellsOfHole ⟨Nat.le_of_ble_eq_true rfl, Nat.le_of_ble_eq_true rfl⟩, ht _ tw_315, ht _ tw_316⟩ ⟨PR_blind, va_recv hK hP (ci := 3) (q0 := 0) rfl rfl, fun U hU hW => PR_mk hPc hK hU hW⟩ rfl rfl hl.1 rfl (lv_room (Nat.le_of_ble_eq_true rfl)) dX5_isGone_2 ⟨Nat.zero_le _, Nat.zero_le _⟩) (fun r_1 hf => ?_)
  refine lv_if_ne (tgt := 12) hx hb dX5_isGone_5 (by decide) (fun c_2 => ?_) (fun c_2 => ?_)
  · have hf := hf.1 c_2
    refine lv_iconst (v := (0 : Int32)) hx hb dX5_isGone_12 (by decide) ?_
    exact W.zret (v := (0 : Int32)) hx hb hr rfl (fun t ht hW => ⟨(0 : Int32), rfl, hf, ht⟩) (fun q h => absurd h List.not_mem_nil) dX5_isGone_13
  · have hf := hf.2 c_2
    refine lv_iconst (v := (1 : Int32)) hx hb dX5_isGone_8 (by decide) ?_
    refine lv_goto (tgt := 13) hx hb dX5_isGone_9 (by decide) ?_
    exact W.zret (v := (1 : Int32)) hx hb hr rfl (fun t ht hW => ⟨(1 : Int32), rfl, hf, ht⟩) (fun q h => absurd h List.not_mem_nil) dX5_isGone_13
def B_X5_holesLeft_24 (G4 : (Int32 × Int32) → Prop) (s0 : CS) (x1 : Int32) (x2 : Int32) (Q : Int32 → Prop) : Prop := ∀ x2_1 : Int32, x2_1 = x2 + (1 : Int32) → G4 (x1, x2_1)
def LB_X5_holesLeft_4 (G4 : (Int32 × Int32) → Prop) (s0 : CS) (x1 : Int32) (x2 : Int32) (Q : Int32 → Prop) : Prop := (((5 : Int32) ≤ x2 → Q x1) ∧ (¬ (5 : Int32) ≤ x2 → vp_in x2 5 ∧ ((((s0.2.1 0) x2.toNatClampNeg) = 0 → B_X5_holesLeft_24 G4 s0 x1 x2 Q) ∧ (¬ ((s0.2.1 0) x2.toNatClampNeg) = 0 → ∀ x1_5 : Int32, x1_5 = (x1 ||| ((1 : Int32) <<< (x2 &&& 31))) → B_X5_holesLeft_24 G4 s0 x1_5 x2 Q))))
def B_X5_holesLeft_4 (s0 : CS) (x1 : Int32) (x2 : Int32) (Q : Int32 → Prop) : Prop := LOOP (fun (G4 : (Int32 × Int32) → Prop) z => LB_X5_holesLeft_4 G4 s0 z.1 z.2 Q) (x1, x2)
def wp_X5_holesLeft (s0 : CS) (Q : Int32 → Prop) : Prop := B_X5_holesLeft_4 s0 (0 : Int32) (0 : Int32) Q
set_option maxHeartbeats 4000000 in
set_option maxRecDepth 100000 in
theorem c_X5_holesLeft (l : Launch) (D : va_G) (cI cZ cW : ClassId) (q0 : Nat → Nat) (s0 : CS) (Q : Int32 → Prop) (hf : wp_X5_holesLeft s0 Q) : Met l yX5_holesLeft (wsA yX5_holesLeft cX5_holesLeft 3 (some .int)) ({ frames := 0, cells := 0, slots := 0, locals := 0 }) (PR D cI cZ cW [.ref (q0 0)] (wW cI cZ q0 s0)) (vp_Si Q) 0 0 (fun _ => False) := by
  refine Met.ofW (cc := cX5_holesLeft) (maxL := 3) (ret := (some .int)) (by decide) rfl ?_
  intro p e s m args below meth c s₁ B hml hv
  obtain ⟨rfl, hP, hK⟩ := hv
  have hx := B.exec
  have hb := B.bytes
  have hr := B.returns
  have hts := atoms_spec (ws := (wsA yX5_holesLeft cX5_holesLeft 3 (some .int))) B.pre
  have ht : ∀ w ∈ lw_g, w.before _ s = true := fun w h => hts w (List.mem_cons_of_mem _ h)
  have hown : s.vm.findClass RX5 = some m.cls := findClass_of_methodNamed B.named
  have hlocks := B.notSynchronized
  have hl := lv_entry ([.ref (q0 0)]) (n := 3) (Nat.le_of_ble_eq_true rfl)
  rw [lg_entry_eq]
  generalize (lg_sl ([.ref (q0 0)]) ++ List.replicate (3 - (lg_sl ([.ref (q0 0)])).length) Slot.unset).toArray = ls at hl ⊢
  have hl : lv_has ls 3 [(0, .ref (q0 0))] := hl
  unfold wp_X5_holesLeft at hf
  have k_4 : ∀ (x1 : Int32) (x2 : Int32) (ls : Array Slot), B_X5_holesLeft_4 s0 x1 x2 Q → lv_has ls 3 [(0, .ref (q0 0)), (1, .int x1), (2, .int x2)] → W p l e (headSpec (wsA yX5_holesLeft cX5_holesLeft 3 (some .int)) ({ frames := 0, cells := 0, slots := 0, locals := 0 })).room s m (#[.ref (q0 0)] : Array Value) below meth c s.heap [] 0 0 (MQ below (vp_Si Q) (#[.ref (q0 0)] : Array Value) s 0 0 (fun _ => False)) (F0 m 4 ls []) := by
    intro x1 x2 ls hf hl
    unfold B_X5_holesLeft_4 at hf
    obtain ⟨I_4, ⟨n0_4, hI0_4⟩, hst_4⟩ := hf
    have main_4 : ∀ (n : Nat) (x1 : Int32) (x2 : Int32) (ls : Array Slot), I_4 n (x1, x2) → lv_has ls 3 [(0, .ref (q0 0)), (1, .int x1), (2, .int x2)] → W p l e (headSpec (wsA yX5_holesLeft cX5_holesLeft 3 (some .int)) ({ frames := 0, cells := 0, slots := 0, locals := 0 })).room s m (#[.ref (q0 0)] : Array Value) below meth c s.heap [] 0 0 (MQ below (vp_Si Q) (#[.ref (q0 0)] : Array Value) s 0 0 (fun _ => False)) (F0 m 4 ls []) := by
      intro n
      induction n using Nat.strongRecOn with
      | _ n_4 ih_4 =>
      intro x1 x2 ls hI hl
      have hf : LB_X5_holesLeft_4 (fun z => ∃ k, k < n_4 ∧ I_4 k z) s0 x1 x2 Q := hst_4 n_4 (x1, x2) hI
      have hG_4 : ∀ (x1 : Int32) (x2 : Int32) (ls : Array Slot), (∃ k, k < n_4 ∧ I_4 k (x1, x2)) → lv_has ls 3 [(0, .ref (q0 0)), (1, .int x1), (2, .int x2)] → W p l e (headSpec (wsA yX5_holesLeft cX5_holesLeft 3 (some .int)) ({ frames := 0, cells := 0, slots := 0, locals := 0 })).room s m (#[.ref (q0 0)] : Array Value) below meth c s.heap [] 0 0 (MQ below (vp_Si Q) (#[.ref (q0 0)] : Array Value) s 0 0 (fun _ => False)) (F0 m 4 ls []) := by
        rintro x1 x2 ls ⟨k, hk, hI⟩ hl
        exact ih_4 k hk x1 x2 ls hI hl
      unfold LB_X5_holesLeft_4 at hf
      have k_24 : ∀ (x1 : Int32) (x2 : Int32) (ls : Array Slot), B_X5_holesLeft_24 (fun z => ∃ k, k < n_4 ∧ I_4 k z) s0 x1 x2 Q → lv_has ls 3 [(0, .ref (q0 0)), (1, .int x1), (2, .int x2)] → W p l e (headSpec (wsA yX5_holesLeft cX5_holesLeft 3 (some .int)) ({ frames := 0, cells := 0, slots := 0, locals := 0 })).room s m (#[.ref (q0 0)] : Array Value) below meth c s.heap [] 0 0 (MQ below (vp_Si Q) (#[.ref (q0 0)] : Array Value) s 0 0 (fun _ => False)) (F0 m 24 ls []) := by
        intro x1 x2 ls hf hl
        unfold B_X5_holesLeft_24 at hf
        obtain ⟨x2_1, ex2_1⟩ : ∃ y : Int32, y = x2 + (1 : Int32) := ⟨_, rfl⟩
        have hf := hf x2_1 ex2_1
        refine lv_iinc (v := x2_1) (lv' := [(2, .int x2_1), (0, .ref (q0 0)), (1, .int x1)]) hx hb dX5_holesLeft_24 hl (k := 2) rfl (by rw [ex2_1]; rfl) (by decide) rfl (fun ls hl => ?_)
        refine lv_goto (tgt := 4) hx hb dX5_holesLeft_27 (by decide) ?_
        exact hG_4 x1 x2_1 ls hf (lv_sub hl [1, 2, 0] rfl)
      refine lv_iload_n hx hb dX5_holesLeft_4 rfl (lv_at hl 2 rfl) ?_
      refine lv_iconst (v := (5 : Int32)) hx hb dX5_holesLeft_5 (by decide) ?_
      refine lv_icmp_ge (tgt := 30) hx hb dX5_holesLeft_6 (by decide) (fun c_2 => ?_) (fun c_2 => ?_)
      · have hf := hf.1 c_2
        refine lv_iload_n hx hb dX5_holesLeft_30 rfl (lv_at hl 1 rfl) ?_
        exact W.iret (v := x1) hx hb hr (fun t ht hW => ⟨x1, rfl, hf, ht⟩) (fun q h => absurd h List.not_mem_nil) dX5_holesLeft_31
      · have hf := hf.2 c_2
        refine lv_aload_n hx hb dX5_holesLeft_9 rfl (lv_at hl 0 rfl) ?_
        refine va_get (D := D) (ci := 3) (v := .ref (q0 1)) (C := RX5) (T := TX5) (N := 6) hx hb ht inX5 hown hK hP 0 rfl rfl 0 (by decide) (ht _ tw_91) (fun _ h9 => h9) rfl dX5_holesLeft_10 ?_
        refine lv_iload_n hx hb dX5_holesLeft_13 rfl (lv_at hl 2 rfl) ?_
        obtain ⟨hi_3, hf⟩ := hf
        refine va_iald hx hb hK hP 1 0 rfl rfl hi_3 dX5_holesLeft_14 ?_
        refine lv_if_eq (tgt := 24) hx hb dX5_holesLeft_15 (by decide) (fun c_4 => ?_) (fun c_4 => ?_)
        · have hf := hf.1 c_4
          exact k_24 x1 x2 ls hf (lv_sub hl [0, 1, 2] rfl)
        · have hf := hf.2 c_4
          refine lv_iload_n hx hb dX5_holesLeft_18 rfl (lv_at hl 1 rfl) ?_
          refine lv_iconst (v := (1 : Int32)) hx hb dX5_holesLeft_19 (by decide) ?_
          refine lv_iload_n hx hb dX5_holesLeft_20 rfl (lv_at hl 2 rfl) ?_
          refine lv_ishl hx hb dX5_holesLeft_21 ?_
          refine lv_ior hx hb dX5_holesLeft_22 ?_
          refine lv_topi (fun x1_5 ex1_5 => ?_)
          have hf := hf x1_5 ex1_5
          refine lv_istore_n (lv' := [(1, .int x1_5), (0, .ref (q0 0)), (2, .int x2)]) hx hb dX5_holesLeft_23 rfl hl (by decide) rfl (fun ls hl => ?_)
          exact k_24 x1_5 x2 ls hf (lv_sub hl [1, 0, 2] rfl)
    exact main_4 n0_4 x1 x2 ls hI0_4 hl
  refine lv_iconst (v := (0 : Int32)) hx hb dX5_holesLeft_0 (by decide) ?_
  refine lv_istore_n (lv' := [(1, .int (0 : Int32)), (0, .ref (q0 0))]) hx hb dX5_holesLeft_1 rfl hl (by decide) rfl (fun ls hl => ?_)
  refine lv_iconst (v := (0 : Int32)) hx hb dX5_holesLeft_2 (by decide) ?_
  refine lv_istore_n (lv' := [(2, .int (0 : Int32)), (1, .int (0 : Int32)), (0, .ref (q0 0))]) hx hb dX5_holesLeft_3 rfl hl (by decide) rfl (fun ls hl => ?_)
  exact k_4 (0 : Int32) (0 : Int32) ls hf (lv_sub hl [2, 1, 0] rfl)
def B_X5_holesOf_25 (G4 : (Int32 × Int32 × Int32) → Prop) (s0 : CS) (x1 : Int32) (x2 : Int32) (x3 : Int32) (Q : Int32 → Prop) : Prop := ∀ x3_1 : Int32, x3_1 = x3 + (1 : Int32) → G4 (x1, x2, x3_1)
def LB_X5_holesOf_4 (G4 : (Int32 × Int32 × Int32) → Prop) (s0 : CS) (x1 : Int32) (x2 : Int32) (x3 : Int32) (Q : Int32 → Prop) : Prop := (((5 : Int32) ≤ x3 → Q x2) ∧ (¬ (5 : Int32) ≤ x3 → vp_in x3 5 ∧ ((¬ ((s0.2.1 1) x3.toNatClampNeg) = x1 → B_X5_holesOf_25 G4 s0 x1 x2 x3 Q) ∧ (((s0.2.1 1) x3.toNatClampNeg) = x1 → ∀ x2_5 : Int32, x2_5 = (x2 ||| ((1 : Int32) <<< (x3 &&& 31))) → B_X5_holesOf_25 G4 s0 x1 x2_5 x3 Q))))
def B_X5_holesOf_4 (s0 : CS) (x1 : Int32) (x2 : Int32) (x3 : Int32) (Q : Int32 → Prop) : Prop := LOOP (fun (G4 : (Int32 × Int32 × Int32) → Prop) z => LB_X5_holesOf_4 G4 s0 z.1 z.2.1 z.2.2 Q) (x1, x2, x3)
def wp_X5_holesOf (p0 : Int32) (s0 : CS) (Q : Int32 → Prop) : Prop := B_X5_holesOf_4 s0 p0 (0 : Int32) (0 : Int32) Q
set_option maxHeartbeats 4000000 in
set_option maxRecDepth 100000 in
theorem c_X5_holesOf (l : Launch) (D : va_G) (cI cZ cW : ClassId) (q0 : Nat → Nat) (p0 : Int32) (s0 : CS) (Q : Int32 → Prop) (hf : wp_X5_holesOf p0 s0 Q) : Met l yX5_holesOf (wsA yX5_holesOf cX5_holesOf 4 (some .int)) ({ frames := 0, cells := 0, slots := 0, locals := 0 }) (PR D cI cZ cW [.ref (q0 0), .int p0] (wW cI cZ q0 s0)) (vp_Si Q) 0 0 (fun _ => False) := by
  refine Met.ofW (cc := cX5_holesOf) (maxL := 4) (ret := (some .int)) (by decide) rfl ?_
  intro p e s m args below meth c s₁ B hml hv
  obtain ⟨rfl, hP, hK⟩ := hv
  have hx := B.exec
  have hb := B.bytes
  have hr := B.returns
  have hts := atoms_spec (ws := (wsA yX5_holesOf cX5_holesOf 4 (some .int))) B.pre
  have ht : ∀ w ∈ lw_g, w.before _ s = true := fun w h => hts w (List.mem_cons_of_mem _ h)
  have hown : s.vm.findClass RX5 = some m.cls := findClass_of_methodNamed B.named
  have hlocks := B.notSynchronized
  have hl := lv_entry ([.ref (q0 0), .int p0]) (n := 4) (Nat.le_of_ble_eq_true rfl)
  rw [lg_entry_eq]
  generalize (lg_sl ([.ref (q0 0), .int p0]) ++ List.replicate (4 - (lg_sl ([.ref (q0 0), .int p0])).length) Slot.unset).toArray = ls at hl ⊢
  have hl : lv_has ls 4 [(0, .ref (q0 0)), (1, .int p0)] := hl
  unfold wp_X5_holesOf at hf
  have k_4 : ∀ (x1 : Int32) (x2 : Int32) (x3 : Int32) (ls : Array Slot), B_X5_holesOf_4 s0 x1 x2 x3 Q → lv_has ls 4 [(0, .ref (q0 0)), (1, .int x1), (2, .int x2), (3, .int x3)] → W p l e (headSpec (wsA yX5_holesOf cX5_holesOf 4 (some .int)) ({ frames := 0, cells := 0, slots := 0, locals := 0 })).room s m (#[.ref (q0 0), .int p0] : Array Value) below meth c s.heap [] 0 0 (MQ below (vp_Si Q) (#[.ref (q0 0), .int p0] : Array Value) s 0 0 (fun _ => False)) (F0 m 4 ls []) := by
    intro x1 x2 x3 ls hf hl
    unfold B_X5_holesOf_4 at hf
    obtain ⟨I_4, ⟨n0_4, hI0_4⟩, hst_4⟩ := hf
    have main_4 : ∀ (n : Nat) (x1 : Int32) (x2 : Int32) (x3 : Int32) (ls : Array Slot), I_4 n (x1, x2, x3) → lv_has ls 4 [(0, .ref (q0 0)), (1, .int x1), (2, .int x2), (3, .int x3)] → W p l e (headSpec (wsA yX5_holesOf cX5_holesOf 4 (some .int)) ({ frames := 0, cells := 0, slots := 0, locals := 0 })).room s m (#[.ref (q0 0), .int p0] : Array Value) below meth c s.heap [] 0 0 (MQ below (vp_Si Q) (#[.ref (q0 0), .int p0] : Array Value) s 0 0 (fun _ => False)) (F0 m 4 ls []) := by
      intro n
      induction n using Nat.strongRecOn with
      | _ n_4 ih_4 =>
      intro x1 x2 x3 ls hI hl
      have hf : LB_X5_holesOf_4 (fun z => ∃ k, k < n_4 ∧ I_4 k z) s0 x1 x2 x3 Q := hst_4 n_4 (x1, x2, x3) hI
      have hG_4 : ∀ (x1 : Int32) (x2 : Int32) (x3 : Int32) (ls : Array Slot), (∃ k, k < n_4 ∧ I_4 k (x1, x2, x3)) → lv_has ls 4 [(0, .ref (q0 0)), (1, .int x1), (2, .int x2), (3, .int x3)] → W p l e (headSpec (wsA yX5_holesOf cX5_holesOf 4 (some .int)) ({ frames := 0, cells := 0, slots := 0, locals := 0 })).room s m (#[.ref (q0 0), .int p0] : Array Value) below meth c s.heap [] 0 0 (MQ below (vp_Si Q) (#[.ref (q0 0), .int p0] : Array Value) s 0 0 (fun _ => False)) (F0 m 4 ls []) := by
        rintro x1 x2 x3 ls ⟨k, hk, hI⟩ hl
        exact ih_4 k hk x1 x2 x3 ls hI hl
      unfold LB_X5_holesOf_4 at hf
      have k_25 : ∀ (x1 : Int32) (x2 : Int32) (x3 : Int32) (ls : Array Slot), B_X5_holesOf_25 (fun z => ∃ k, k < n_4 ∧ I_4 k z) s0 x1 x2 x3 Q → lv_has ls 4 [(0, .ref (q0 0)), (1, .int x1), (2, .int x2), (3, .int x3)] → W p l e (headSpec (wsA yX5_holesOf cX5_holesOf 4 (some .int)) ({ frames := 0, cells := 0, slots := 0, locals := 0 })).room s m (#[.ref (q0 0), .int p0] : Array Value) below meth c s.heap [] 0 0 (MQ below (vp_Si Q) (#[.ref (q0 0), .int p0] : Array Value) s 0 0 (fun _ => False)) (F0 m 25 ls []) := by
        intro x1 x2 x3 ls hf hl
        unfold B_X5_holesOf_25 at hf
        obtain ⟨x3_1, ex3_1⟩ : ∃ y : Int32, y = x3 + (1 : Int32) := ⟨_, rfl⟩
        have hf := hf x3_1 ex3_1
        refine lv_iinc (v := x3_1) (lv' := [(3, .int x3_1), (0, .ref (q0 0)), (1, .int x1), (2, .int x2)]) hx hb dX5_holesOf_25 hl (k := 3) rfl (by rw [ex3_1]; rfl) (by decide) rfl (fun ls hl => ?_)
        refine lv_goto (tgt := 4) hx hb dX5_holesOf_28 (by decide) ?_
        exact hG_4 x1 x2 x3_1 ls hf (lv_sub hl [1, 2, 3, 0] rfl)
      refine lv_iload_n hx hb dX5_holesOf_4 rfl (lv_at hl 3 rfl) ?_
      refine lv_iconst (v := (5 : Int32)) hx hb dX5_holesOf_5 (by decide) ?_
      refine lv_icmp_ge (tgt := 31) hx hb dX5_holesOf_6 (by decide) (fun c_2 => ?_) (fun c_2 => ?_)
      · have hf := hf.1 c_2
        refine lv_iload_n hx hb dX5_holesOf_31 rfl (lv_at hl 2 rfl) ?_
        exact W.iret (v := x2) hx hb hr (fun t ht hW => ⟨x2, rfl, hf, ht⟩) (fun q h => absurd h List.not_mem_nil) dX5_holesOf_32
      · have hf := hf.2 c_2
        refine lv_aload_n hx hb dX5_holesOf_9 rfl (lv_at hl 0 rfl) ?_
        refine va_get (D := D) (ci := 3) (v := .ref (q0 2)) (C := RX5) (T := TX5) (N := 6) hx hb ht inX5 hown hK hP 0 rfl rfl 1 (by decide) (ht _ tw_92) (fun _ h9 => h9) rfl dX5_holesOf_10 ?_
        refine lv_iload_n hx hb dX5_holesOf_13 rfl (lv_at hl 3 rfl) ?_
        obtain ⟨hi_3, hf⟩ := hf
        refine va_iald hx hb hK hP 2 0 rfl rfl hi_3 dX5_holesOf_14 ?_
        refine lv_iload_n hx hb dX5_holesOf_15 rfl (lv_at hl 1 rfl) ?_
        refine lv_icmp_ne (tgt := 25) hx hb dX5_holesOf_16 (by decide) (fun c_4 => ?_) (fun c_4 => ?_)
        · have hf := hf.1 c_4
          exact k_25 x1 x2 x3 ls hf (lv_sub hl [0, 1, 2, 3] rfl)
        · have hf := hf.2 c_4
          refine lv_iload_n hx hb dX5_holesOf_19 rfl (lv_at hl 2 rfl) ?_
          refine lv_iconst (v := (1 : Int32)) hx hb dX5_holesOf_20 (by decide) ?_
          refine lv_iload_n hx hb dX5_holesOf_21 rfl (lv_at hl 3 rfl) ?_
          refine lv_ishl hx hb dX5_holesOf_22 ?_
          refine lv_ior hx hb dX5_holesOf_23 ?_
          refine lv_topi (fun x2_5 ex2_5 => ?_)
          have hf := hf x2_5 ex2_5
          refine lv_istore_n (lv' := [(2, .int x2_5), (0, .ref (q0 0)), (1, .int x1), (3, .int x3)]) hx hb dX5_holesOf_24 rfl hl (by decide) rfl (fun ls hl => ?_)
          exact k_25 x1 x2_5 x3 ls hf (lv_sub hl [1, 2, 0, 3] rfl)
    exact main_4 n0_4 x1 x2 x3 ls hI0_4 hl
  refine lv_iconst (v := (0 : Int32)) hx hb dX5_holesOf_0 (by decide) ?_
  refine lv_istore_n (lv' := [(2, .int (0 : Int32)), (0, .ref (q0 0)), (1, .int p0)]) hx hb dX5_holesOf_1 rfl hl (by decide) rfl (fun ls hl => ?_)
  refine lv_iconst (v := (0 : Int32)) hx hb dX5_holesOf_2 (by decide) ?_
  refine lv_istore_n (lv' := [(3, .int (0 : Int32)), (2, .int (0 : Int32)), (0, .ref (q0 0)), (1, .int p0)]) hx hb dX5_holesOf_3 rfl hl (by decide) rfl (fun ls hl => ?_)
  exact k_4 p0 (0 : Int32) (0 : Int32) ls hf (lv_sub hl [2, 3, 1, 0] rfl)
def B_X5_cellsOfHoles_26 (G4 : (Int32 × Int32 × Int32) → Prop) (s0 : CS) (x1 : Int32) (x2 : Int32) (x3 : Int32) (Q : Int32 → Prop) : Prop := ∀ x3_1 : Int32, x3_1 = x3 + (1 : Int32) → G4 (x1, x2, x3_1)
def LB_X5_cellsOfHoles_4 (G4 : (Int32 × Int32 × Int32) → Prop) (s0 : CS) (x1 : Int32) (x2 : Int32) (x3 : Int32) (Q : Int32 → Prop) : Prop := (((5 : Int32) ≤ x3 → Q x2) ∧ (¬ (5 : Int32) ≤ x3 → (((x1 &&& ((1 : Int32) <<< (x3 &&& 31))) = 0 → B_X5_cellsOfHoles_26 G4 s0 x1 x2 x3 Q) ∧ (¬ (x1 &&& ((1 : Int32) <<< (x3 &&& 31))) = 0 → vp_in x3 5 ∧ ∀ x2_5 : Int32, x2_5 = (x2 ||| ((s0.2.1 0) x3.toNatClampNeg)) → B_X5_cellsOfHoles_26 G4 s0 x1 x2_5 x3 Q))))
def B_X5_cellsOfHoles_4 (s0 : CS) (x1 : Int32) (x2 : Int32) (x3 : Int32) (Q : Int32 → Prop) : Prop := LOOP (fun (G4 : (Int32 × Int32 × Int32) → Prop) z => LB_X5_cellsOfHoles_4 G4 s0 z.1 z.2.1 z.2.2 Q) (x1, x2, x3)
def wp_X5_cellsOfHoles (p0 : Int32) (s0 : CS) (Q : Int32 → Prop) : Prop := B_X5_cellsOfHoles_4 s0 p0 (0 : Int32) (0 : Int32) Q
set_option maxHeartbeats 4000000 in
set_option maxRecDepth 100000 in
theorem c_X5_cellsOfHoles (l : Launch) (D : va_G) (cI cZ cW : ClassId) (q0 : Nat → Nat) (p0 : Int32) (s0 : CS) (Q : Int32 → Prop) (hf : wp_X5_cellsOfHoles p0 s0 Q) : Met l yX5_cellsOfHoles (wsA yX5_cellsOfHoles cX5_cellsOfHoles 4 (some .int)) ({ frames := 0, cells := 0, slots := 0, locals := 0 }) (PR D cI cZ cW [.ref (q0 0), .int p0] (wW cI cZ q0 s0)) (vp_Si Q) 0 0 (fun _ => False) := by
  refine Met.ofW (cc := cX5_cellsOfHoles) (maxL := 4) (ret := (some .int)) (by decide) rfl ?_
  intro p e s m args below meth c s₁ B hml hv
  obtain ⟨rfl, hP, hK⟩ := hv
  have hx := B.exec
  have hb := B.bytes
  have hr := B.returns
  have hts := atoms_spec (ws := (wsA yX5_cellsOfHoles cX5_cellsOfHoles 4 (some .int))) B.pre
  have ht : ∀ w ∈ lw_g, w.before _ s = true := fun w h => hts w (List.mem_cons_of_mem _ h)
  have hown : s.vm.findClass RX5 = some m.cls := findClass_of_methodNamed B.named
  have hlocks := B.notSynchronized
  have hl := lv_entry ([.ref (q0 0), .int p0]) (n := 4) (Nat.le_of_ble_eq_true rfl)
  rw [lg_entry_eq]
  generalize (lg_sl ([.ref (q0 0), .int p0]) ++ List.replicate (4 - (lg_sl ([.ref (q0 0), .int p0])).length) Slot.unset).toArray = ls at hl ⊢
  have hl : lv_has ls 4 [(0, .ref (q0 0)), (1, .int p0)] := hl
  unfold wp_X5_cellsOfHoles at hf
  have k_4 : ∀ (x1 : Int32) (x2 : Int32) (x3 : Int32) (ls : Array Slot), B_X5_cellsOfHoles_4 s0 x1 x2 x3 Q → lv_has ls 4 [(0, .ref (q0 0)), (1, .int x1), (2, .int x2), (3, .int x3)] → W p l e (headSpec (wsA yX5_cellsOfHoles cX5_cellsOfHoles 4 (some .int)) ({ frames := 0, cells := 0, slots := 0, locals := 0 })).room s m (#[.ref (q0 0), .int p0] : Array Value) below meth c s.heap [] 0 0 (MQ below (vp_Si Q) (#[.ref (q0 0), .int p0] : Array Value) s 0 0 (fun _ => False)) (F0 m 4 ls []) := by
    intro x1 x2 x3 ls hf hl
    unfold B_X5_cellsOfHoles_4 at hf
    obtain ⟨I_4, ⟨n0_4, hI0_4⟩, hst_4⟩ := hf
    have main_4 : ∀ (n : Nat) (x1 : Int32) (x2 : Int32) (x3 : Int32) (ls : Array Slot), I_4 n (x1, x2, x3) → lv_has ls 4 [(0, .ref (q0 0)), (1, .int x1), (2, .int x2), (3, .int x3)] → W p l e (headSpec (wsA yX5_cellsOfHoles cX5_cellsOfHoles 4 (some .int)) ({ frames := 0, cells := 0, slots := 0, locals := 0 })).room s m (#[.ref (q0 0), .int p0] : Array Value) below meth c s.heap [] 0 0 (MQ below (vp_Si Q) (#[.ref (q0 0), .int p0] : Array Value) s 0 0 (fun _ => False)) (F0 m 4 ls []) := by
      intro n
      induction n using Nat.strongRecOn with
      | _ n_4 ih_4 =>
      intro x1 x2 x3 ls hI hl
      have hf : LB_X5_cellsOfHoles_4 (fun z => ∃ k, k < n_4 ∧ I_4 k z) s0 x1 x2 x3 Q := hst_4 n_4 (x1, x2, x3) hI
      have hG_4 : ∀ (x1 : Int32) (x2 : Int32) (x3 : Int32) (ls : Array Slot), (∃ k, k < n_4 ∧ I_4 k (x1, x2, x3)) → lv_has ls 4 [(0, .ref (q0 0)), (1, .int x1), (2, .int x2), (3, .int x3)] → W p l e (headSpec (wsA yX5_cellsOfHoles cX5_cellsOfHoles 4 (some .int)) ({ frames := 0, cells := 0, slots := 0, locals := 0 })).room s m (#[.ref (q0 0), .int p0] : Array Value) below meth c s.heap [] 0 0 (MQ below (vp_Si Q) (#[.ref (q0 0), .int p0] : Array Value) s 0 0 (fun _ => False)) (F0 m 4 ls []) := by
        rintro x1 x2 x3 ls ⟨k, hk, hI⟩ hl
        exact ih_4 k hk x1 x2 x3 ls hI hl
      unfold LB_X5_cellsOfHoles_4 at hf
      have k_26 : ∀ (x1 : Int32) (x2 : Int32) (x3 : Int32) (ls : Array Slot), B_X5_cellsOfHoles_26 (fun z => ∃ k, k < n_4 ∧ I_4 k z) s0 x1 x2 x3 Q → lv_has ls 4 [(0, .ref (q0 0)), (1, .int x1), (2, .int x2), (3, .int x3)] → W p l e (headSpec (wsA yX5_cellsOfHoles cX5_cellsOfHoles 4 (some .int)) ({ frames := 0, cells := 0, slots := 0, locals := 0 })).room s m (#[.ref (q0 0), .int p0] : Array Value) below meth c s.heap [] 0 0 (MQ below (vp_Si Q) (#[.ref (q0 0), .int p0] : Array Value) s 0 0 (fun _ => False)) (F0 m 26 ls []) := by
        intro x1 x2 x3 ls hf hl
        unfold B_X5_cellsOfHoles_26 at hf
        obtain ⟨x3_1, ex3_1⟩ : ∃ y : Int32, y = x3 + (1 : Int32) := ⟨_, rfl⟩
        have hf := hf x3_1 ex3_1
        refine lv_iinc (v := x3_1) (lv' := [(3, .int x3_1), (0, .ref (q0 0)), (1, .int x1), (2, .int x2)]) hx hb dX5_cellsOfHoles_26 hl (k := 3) rfl (by rw [ex3_1]; rfl) (by decide) rfl (fun ls hl => ?_)
        refine lv_goto (tgt := 4) hx hb dX5_cellsOfHoles_29 (by decide) ?_
        exact hG_4 x1 x2 x3_1 ls hf (lv_sub hl [1, 2, 3, 0] rfl)
      refine lv_iload_n hx hb dX5_cellsOfHoles_4 rfl (lv_at hl 3 rfl) ?_
      refine lv_iconst (v := (5 : Int32)) hx hb dX5_cellsOfHoles_5 (by decide) ?_
      refine lv_icmp_ge (tgt := 32) hx hb dX5_cellsOfHoles_6 (by decide) (fun c_2 => ?_) (fun c_2 => ?_)
      · have hf := hf.1 c_2
        refine lv_iload_n hx hb dX5_cellsOfHoles_32 rfl (lv_at hl 2 rfl) ?_
        exact W.iret (v := x2) hx hb hr (fun t ht hW => ⟨x2, rfl, hf, ht⟩) (fun q h => absurd h List.not_mem_nil) dX5_cellsOfHoles_33
      · have hf := hf.2 c_2
        refine lv_iload_n hx hb dX5_cellsOfHoles_9 rfl (lv_at hl 1 rfl) ?_
        refine lv_iconst (v := (1 : Int32)) hx hb dX5_cellsOfHoles_10 (by decide) ?_
        refine lv_iload_n hx hb dX5_cellsOfHoles_11 rfl (lv_at hl 3 rfl) ?_
        refine lv_ishl hx hb dX5_cellsOfHoles_12 ?_
        refine lv_iand hx hb dX5_cellsOfHoles_13 ?_
        refine lv_if_eq (tgt := 26) hx hb dX5_cellsOfHoles_14 (by decide) (fun c_3 => ?_) (fun c_3 => ?_)
        · have hf := hf.1 c_3
          exact k_26 x1 x2 x3 ls hf (lv_sub hl [0, 1, 2, 3] rfl)
        · have hf := hf.2 c_3
          refine lv_iload_n hx hb dX5_cellsOfHoles_17 rfl (lv_at hl 2 rfl) ?_
          refine lv_aload_n hx hb dX5_cellsOfHoles_18 rfl (lv_at hl 0 rfl) ?_
          refine va_get (D := D) (ci := 3) (v := .ref (q0 1)) (C := RX5) (T := TX5) (N := 6) hx hb ht inX5 hown hK hP 0 rfl rfl 0 (by decide) (ht _ tw_91) (fun _ h9 => h9) rfl dX5_cellsOfHoles_19 ?_
          refine lv_iload_n hx hb dX5_cellsOfHoles_22 rfl (lv_at hl 3 rfl) ?_
          obtain ⟨hi_4, hf⟩ := hf
          refine va_iald hx hb hK hP 1 0 rfl rfl hi_4 dX5_cellsOfHoles_23 ?_
          refine lv_ior hx hb dX5_cellsOfHoles_24 ?_
          refine lv_topi (fun x2_5 ex2_5 => ?_)
          have hf := hf x2_5 ex2_5
          refine lv_istore_n (lv' := [(2, .int x2_5), (0, .ref (q0 0)), (1, .int x1), (3, .int x3)]) hx hb dX5_cellsOfHoles_25 rfl hl (by decide) rfl (fun ls hl => ?_)
          exact k_26 x1 x2_5 x3 ls hf (lv_sub hl [1, 2, 0, 3] rfl)
    exact main_4 n0_4 x1 x2 x3 ls hI0_4 hl
  refine lv_iconst (v := (0 : Int32)) hx hb dX5_cellsOfHoles_0 (by decide) ?_
  refine lv_istore_n (lv' := [(2, .int (0 : Int32)), (0, .ref (q0 0)), (1, .int p0)]) hx hb dX5_cellsOfHoles_1 rfl hl (by decide) rfl (fun ls hl => ?_)
  refine lv_iconst (v := (0 : Int32)) hx hb dX5_cellsOfHoles_2 (by decide) ?_
  refine lv_istore_n (lv' := [(3, .int (0 : Int32)), (2, .int (0 : Int32)), (0, .ref (q0 0)), (1, .int p0)]) hx hb dX5_cellsOfHoles_3 rfl hl (by decide) rfl (fun ls hl => ?_)
  exact k_4 p0 (0 : Int32) (0 : Int32) ls hf (lv_sub hl [2, 3, 1, 0] rfl)
def LB_X5_holeCells_4 (G4 : (Int32 × Int32) → Prop) (s0 : CS) (x1 : Int32) (x2 : Int32) (Q : Int32 → Prop) : Prop := (((5 : Int32) ≤ x2 → Q x1) ∧ (¬ (5 : Int32) ≤ x2 → vp_in x2 5 ∧ ∀ x1_3 : Int32, x1_3 = (x1 ||| ((s0.2.1 0) x2.toNatClampNeg)) → ∀ x2_4 : Int32, x2_4 = x2 + (1 : Int32) → G4 (x1_3, x2_4)))
def B_X5_holeCells_4 (s0 : CS) (x1 : Int32) (x2 : Int32) (Q : Int32 → Prop) : Prop := LOOP (fun (G4 : (Int32 × Int32) → Prop) z => LB_X5_holeCells_4 G4 s0 z.1 z.2 Q) (x1, x2)
def wp_X5_holeCells (s0 : CS) (Q : Int32 → Prop) : Prop := B_X5_holeCells_4 s0 (0 : Int32) (0 : Int32) Q
set_option maxHeartbeats 4000000 in
set_option maxRecDepth 100000 in
theorem c_X5_holeCells (l : Launch) (D : va_G) (cI cZ cW : ClassId) (q0 : Nat → Nat) (s0 : CS) (Q : Int32 → Prop) (hf : wp_X5_holeCells s0 Q) : Met l yX5_holeCells (wsA yX5_holeCells cX5_holeCells 3 (some .int)) ({ frames := 0, cells := 0, slots := 0, locals := 0 }) (PR D cI cZ cW [.ref (q0 0)] (wW cI cZ q0 s0)) (vp_Si Q) 0 0 (fun _ => False) := by
  refine Met.ofW (cc := cX5_holeCells) (maxL := 3) (ret := (some .int)) (by decide) rfl ?_
  intro p e s m args below meth c s₁ B hml hv
  obtain ⟨rfl, hP, hK⟩ := hv
  have hx := B.exec
  have hb := B.bytes
  have hr := B.returns
  have hts := atoms_spec (ws := (wsA yX5_holeCells cX5_holeCells 3 (some .int))) B.pre
  have ht : ∀ w ∈ lw_g, w.before _ s = true := fun w h => hts w (List.mem_cons_of_mem _ h)
  have hown : s.vm.findClass RX5 = some m.cls := findClass_of_methodNamed B.named
  have hlocks := B.notSynchronized
  have hl := lv_entry ([.ref (q0 0)]) (n := 3) (Nat.le_of_ble_eq_true rfl)
  rw [lg_entry_eq]
  generalize (lg_sl ([.ref (q0 0)]) ++ List.replicate (3 - (lg_sl ([.ref (q0 0)])).length) Slot.unset).toArray = ls at hl ⊢
  have hl : lv_has ls 3 [(0, .ref (q0 0))] := hl
  unfold wp_X5_holeCells at hf
  have k_4 : ∀ (x1 : Int32) (x2 : Int32) (ls : Array Slot), B_X5_holeCells_4 s0 x1 x2 Q → lv_has ls 3 [(0, .ref (q0 0)), (1, .int x1), (2, .int x2)] → W p l e (headSpec (wsA yX5_holeCells cX5_holeCells 3 (some .int)) ({ frames := 0, cells := 0, slots := 0, locals := 0 })).room s m (#[.ref (q0 0)] : Array Value) below meth c s.heap [] 0 0 (MQ below (vp_Si Q) (#[.ref (q0 0)] : Array Value) s 0 0 (fun _ => False)) (F0 m 4 ls []) := by
    intro x1 x2 ls hf hl
    unfold B_X5_holeCells_4 at hf
    obtain ⟨I_4, ⟨n0_4, hI0_4⟩, hst_4⟩ := hf
    have main_4 : ∀ (n : Nat) (x1 : Int32) (x2 : Int32) (ls : Array Slot), I_4 n (x1, x2) → lv_has ls 3 [(0, .ref (q0 0)), (1, .int x1), (2, .int x2)] → W p l e (headSpec (wsA yX5_holeCells cX5_holeCells 3 (some .int)) ({ frames := 0, cells := 0, slots := 0, locals := 0 })).room s m (#[.ref (q0 0)] : Array Value) below meth c s.heap [] 0 0 (MQ below (vp_Si Q) (#[.ref (q0 0)] : Array Value) s 0 0 (fun _ => False)) (F0 m 4 ls []) := by
      intro n
      induction n using Nat.strongRecOn with
      | _ n_4 ih_4 =>
      intro x1 x2 ls hI hl
      have hf : LB_X5_holeCells_4 (fun z => ∃ k, k < n_4 ∧ I_4 k z) s0 x1 x2 Q := hst_4 n_4 (x1, x2) hI
      have hG_4 : ∀ (x1 : Int32) (x2 : Int32) (ls : Array Slot), (∃ k, k < n_4 ∧ I_4 k (x1, x2)) → lv_has ls 3 [(0, .ref (q0 0)), (1, .int x1), (2, .int x2)] → W p l e (headSpec (wsA yX5_holeCells cX5_holeCells 3 (some .int)) ({ frames := 0, cells := 0, slots := 0, locals := 0 })).room s m (#[.ref (q0 0)] : Array Value) below meth c s.heap [] 0 0 (MQ below (vp_Si Q) (#[.ref (q0 0)] : Array Value) s 0 0 (fun _ => False)) (F0 m 4 ls []) := by
        rintro x1 x2 ls ⟨k, hk, hI⟩ hl
        exact ih_4 k hk x1 x2 ls hI hl
      unfold LB_X5_holeCells_4 at hf
      refine lv_iload_n hx hb dX5_holeCells_4 rfl (lv_at hl 2 rfl) ?_
      refine lv_iconst (v := (5 : Int32)) hx hb dX5_holeCells_5 (by decide) ?_
      refine lv_icmp_ge (tgt := 24) hx hb dX5_holeCells_6 (by decide) (fun c_1 => ?_) (fun c_1 => ?_)
      · have hf := hf.1 c_1
        refine lv_iload_n hx hb dX5_holeCells_24 rfl (lv_at hl 1 rfl) ?_
        exact W.iret (v := x1) hx hb hr (fun t ht hW => ⟨x1, rfl, hf, ht⟩) (fun q h => absurd h List.not_mem_nil) dX5_holeCells_25
      · have hf := hf.2 c_1
        refine lv_iload_n hx hb dX5_holeCells_9 rfl (lv_at hl 1 rfl) ?_
        refine lv_aload_n hx hb dX5_holeCells_10 rfl (lv_at hl 0 rfl) ?_
        refine va_get (D := D) (ci := 3) (v := .ref (q0 1)) (C := RX5) (T := TX5) (N := 6) hx hb ht inX5 hown hK hP 0 rfl rfl 0 (by decide) (ht _ tw_91) (fun _ h9 => h9) rfl dX5_holeCells_11 ?_
        refine lv_iload_n hx hb dX5_holeCells_14 rfl (lv_at hl 2 rfl) ?_
        obtain ⟨hi_2, hf⟩ := hf
        refine va_iald hx hb hK hP 1 0 rfl rfl hi_2 dX5_holeCells_15 ?_
        refine lv_ior hx hb dX5_holeCells_16 ?_
        refine lv_topi (fun x1_3 ex1_3 => ?_)
        have hf := hf x1_3 ex1_3
        refine lv_istore_n (lv' := [(1, .int x1_3), (0, .ref (q0 0)), (2, .int x2)]) hx hb dX5_holeCells_17 rfl hl (by decide) rfl (fun ls hl => ?_)
        obtain ⟨x2_4, ex2_4⟩ : ∃ y : Int32, y = x2 + (1 : Int32) := ⟨_, rfl⟩
        have hf := hf x2_4 ex2_4
        refine lv_iinc (v := x2_4) (lv' := [(2, .int x2_4), (1, .int x1_3), (0, .ref (q0 0))]) hx hb dX5_holeCells_18 hl (k := 2) rfl (by rw [ex2_4]; rfl) (by decide) rfl (fun ls hl => ?_)
        refine lv_goto (tgt := 4) hx hb dX5_holeCells_21 (by decide) ?_
        exact hG_4 x1_3 x2_4 ls hf (lv_sub hl [2, 1, 0] rfl)
    exact main_4 n0_4 x1 x2 ls hI0_4 hl
  refine lv_iconst (v := (0 : Int32)) hx hb dX5_holeCells_0 (by decide) ?_
  refine lv_istore_n (lv' := [(1, .int (0 : Int32)), (0, .ref (q0 0))]) hx hb dX5_holeCells_1 rfl hl (by decide) rfl (fun ls hl => ?_)
  refine lv_iconst (v := (0 : Int32)) hx hb dX5_holeCells_2 (by decide) ?_
  refine lv_istore_n (lv' := [(2, .int (0 : Int32)), (1, .int (0 : Int32)), (0, .ref (q0 0))]) hx hb dX5_holeCells_3 rfl hl (by decide) rfl (fun ls hl => ?_)
  exact k_4 (0 : Int32) (0 : Int32) ls hf (lv_sub hl [2, 1, 0] rfl)
def wp_X5_holeCellsOf (p0 : Int32) (s0 : CS) (Q : Int32 → Prop) : Prop := wp_X5_holesOf p0 s0 (fun r_1 => wp_X5_cellsOfHoles r_1 s0 (fun r_2 => wp_J6_bitCount_0f7a4 r_2 (fun r_3 => Q r_3)))
set_option maxHeartbeats 4000000 in
set_option maxRecDepth 100000 in
theorem c_X5_holeCellsOf (l : Launch) (D : va_G) (cI cZ cW : ClassId) (q0 : Nat → Nat) (p0 : Int32) (s0 : CS) (Q : Int32 → Prop) (hf : wp_X5_holeCellsOf p0 s0 Q) : Met l yX5_holeCellsOf (wsA yX5_holeCellsOf cX5_holeCellsOf 2 (some .int)) ({ frames := 1, cells := 0, slots := 0, locals := 23 }) (PR D cI cZ cW [.ref (q0 0), .int p0] (wW cI cZ q0 s0)) (vp_Si Q) 0 0 (fun _ => False) := by
  refine Met.ofW (cc := cX5_holeCellsOf) (maxL := 2) (ret := (some .int)) (by decide) rfl ?_
  intro p e s m args below meth c s₁ B hml hv
  obtain ⟨rfl, hP, hK⟩ := hv
  have hx := B.exec
  have hb := B.bytes
  have hr := B.returns
  have hts := atoms_spec (ws := (wsA yX5_holeCellsOf cX5_holeCellsOf 2 (some .int))) B.pre
  have ht : ∀ w ∈ lw_g, w.before _ s = true := fun w h => hts w (List.mem_cons_of_mem _ h)
  have hown : s.vm.findClass RX5 = some m.cls := findClass_of_methodNamed B.named
  have hlocks := B.notSynchronized
  have hl := lv_entry ([.ref (q0 0), .int p0]) (n := 2) (Nat.le_of_ble_eq_true rfl)
  rw [lg_entry_eq]
  generalize (lg_sl ([.ref (q0 0), .int p0]) ++ List.replicate (2 - (lg_sl ([.ref (q0 0), .int p0])).length) Slot.unset).toArray = ls at hl ⊢
  have hl : lv_has ls 2 [(0, .ref (q0 0)), (1, .int p0)] := hl
  unfold wp_X5_holeCellsOf at hf
  refine lv_aload_n hx hb dX5_holeCellsOf_0 rfl (lv_at hl 0 rfl) ?_
  refine lv_aload_n hx hb dX5_holeCellsOf_1 rfl (lv_at hl 0 rfl) ?_
  refine lv_iload_n hx hb dX5_holeCellsOf_2 rfl (lv_at hl 1 rfl) ?_
  have hPc : va_P D classes (wW cI cZ q0 s0) s.heap := hP
  refine vp_callSi (W.runV (As := [.int p0]) (rest := [.ref (q0 0)]) ⟨hx, hb, hml, hown, hts⟩ (c_X5_holesOf l D cI cZ cW q0 p0 s0 _ hf) ⟨callB_of 1 hts (gA tw_284) rfl rfl rfl (ht _ tw_4) (ht _ tw_600) hd_X5_holesOf ⟨Nat.le_of_ble_eq_true rfl, Nat.le_of_ble_eq_true rfl⟩, ht _ tw_282, ht _ tw_283⟩ ⟨PR_blind, va_recv hK hP (ci := 3) (q0 := 0) rfl rfl, fun U hU hW => PR_mk hPc hK hU hW⟩ rfl rfl hl.1 rfl (lv_room (Nat.le_of_ble_eq_true rfl)) dX5_holeCellsOf_3 ⟨Nat.zero_le _, Nat.zero_le _⟩) (fun r_1 hf => ?_)
  have hPc : va_P D classes (wW cI cZ q0 s0) s.heap := hP
  refine vp_callSi (W.runV (As := [.int r_1]) (rest := []) ⟨hx, hb, hml, hown, hts⟩ (c_X5_cellsOfHoles l D cI cZ cW q0 r_1 s0 _ hf) ⟨callB_of 1 hts (gA tw_604) rfl rfl rfl (ht _ tw_4) (ht _ tw_601) hd_X5_cellsOfHoles ⟨Nat.le_of_ble_eq_true rfl, Nat.le_of_ble_eq_true rfl⟩, ht _ tw_602, ht _ tw_603⟩ ⟨PR_blind, va_recv hK hP (ci := 3) (q0 := 0) rfl rfl, fun U hU hW => PR_mk hPc hK hU hW⟩ rfl rfl hl.1 rfl (lv_room (Nat.le_of_ble_eq_true rfl)) dX5_holeCellsOf_6 ⟨Nat.zero_le _, Nat.zero_le _⟩) (fun r_2 hf => ?_)
  have hPc : va_P D classes ([] : va_W) s.heap := hP.sub [] rfl
  refine vp_callSi (W.runS (As := [.int r_2]) (rest := []) ⟨hx, hb, hml, hown, hts⟩ (c_J6_bitCount_0f7a4 l D cI cZ cW  r_2 _ hf) ⟨callB_of 1 hts (gA tw_305) rfl rfl rfl (ht _ tw_10) (ht _ tw_323) hd_J6_bitCount_0f7a4 ⟨Nat.le_of_ble_eq_true rfl, Nat.le_of_ble_eq_true rfl⟩, ht _ tw_304⟩ ⟨PR_blind, fun U hU hW => PR_mk hPc hK hU hW⟩ rfl rfl hl.1 rfl (lv_room (Nat.le_of_ble_eq_true rfl)) dX5_holeCellsOf_9 ⟨Nat.zero_le _, Nat.zero_le _⟩) (fun r_3 hf => ?_)
  exact W.iret (v := r_3) hx hb hr (fun t ht hW => ⟨r_3, rfl, hf, ht⟩) (fun q h => absurd h List.not_mem_nil) dX5_holeCellsOf_12
def wp_X5_openCells (s0 : CS) (Q : Int32 → Prop) : Prop := wp_X5_holeCells s0 (fun r_1 => Q (r_1 ||| (s0.1 4)))
set_option maxHeartbeats 4000000 in
set_option maxRecDepth 100000 in
theorem c_X5_openCells (l : Launch) (D : va_G) (cI cZ cW : ClassId) (q0 : Nat → Nat) (s0 : CS) (Q : Int32 → Prop) (hf : wp_X5_openCells s0 Q) : Met l yX5_openCells (wsA yX5_openCells cX5_openCells 1 (some .int)) ({ frames := 1, cells := 0, slots := 0, locals := 22 }) (PR D cI cZ cW [.ref (q0 0)] (wW cI cZ q0 s0)) (vp_Si Q) 0 0 (fun _ => False) := by
  refine Met.ofW (cc := cX5_openCells) (maxL := 1) (ret := (some .int)) (by decide) rfl ?_
  intro p e s m args below meth c s₁ B hml hv
  obtain ⟨rfl, hP, hK⟩ := hv
  have hx := B.exec
  have hb := B.bytes
  have hr := B.returns
  have hts := atoms_spec (ws := (wsA yX5_openCells cX5_openCells 1 (some .int))) B.pre
  have ht : ∀ w ∈ lw_g, w.before _ s = true := fun w h => hts w (List.mem_cons_of_mem _ h)
  have hown : s.vm.findClass RX5 = some m.cls := findClass_of_methodNamed B.named
  have hlocks := B.notSynchronized
  have hl := lv_entry ([.ref (q0 0)]) (n := 1) (Nat.le_of_ble_eq_true rfl)
  rw [lg_entry_eq]
  generalize (lg_sl ([.ref (q0 0)]) ++ List.replicate (1 - (lg_sl ([.ref (q0 0)])).length) Slot.unset).toArray = ls at hl ⊢
  have hl : lv_has ls 1 [(0, .ref (q0 0))] := hl
  unfold wp_X5_openCells at hf
  refine lv_aload_n hx hb dX5_openCells_0 rfl (lv_at hl 0 rfl) ?_
  have hPc : va_P D classes (wW cI cZ q0 s0) s.heap := hP
  refine vp_callSi (W.runV (As := []) (rest := []) ⟨hx, hb, hml, hown, hts⟩ (c_X5_holeCells l D cI cZ cW q0 s0 _ hf) ⟨callB_of 0 hts (gA tw_301) rfl rfl rfl (ht _ tw_4) (ht _ tw_298) hd_X5_holeCells ⟨Nat.le_of_ble_eq_true rfl, Nat.le_of_ble_eq_true rfl⟩, ht _ tw_299, ht _ tw_300⟩ ⟨PR_blind, va_recv hK hP (ci := 3) (q0 := 0) rfl rfl, fun U hU hW => PR_mk hPc hK hU hW⟩ rfl rfl hl.1 rfl (lv_room (Nat.le_of_ble_eq_true rfl)) dX5_openCells_1 ⟨Nat.zero_le _, Nat.zero_le _⟩) (fun r_1 hf => ?_)
  refine lv_aload_n hx hb dX5_openCells_4 rfl (lv_at hl 0 rfl) ?_
  refine va_get (D := D) (ci := 3) (v := .int (s0.1 4)) (C := RX5) (T := TX5) (N := 6) hx hb ht inX5 hown hK hP 0 rfl rfl 4 (by decide) (ht _ tw_98) (fun _ h9 => h9) rfl dX5_openCells_5 ?_
  refine lv_ior hx hb dX5_openCells_8 ?_
  exact W.iret (v := (r_1 ||| (s0.1 4))) hx hb hr (fun t ht hW => ⟨(r_1 ||| (s0.1 4)), rfl, hf, ht⟩) (fun q h => absurd h List.not_mem_nil) dX5_openCells_9
def wp_X5_openBut (p0 : Int32) (s0 : CS) (Q : Int32 → Prop) : Prop := wp_X5_cellsOfHoles (p0 ^^^ (-1 : Int32)) s0 (fun r_1 => Q (r_1 ||| (s0.1 4)))
set_option maxHeartbeats 4000000 in
set_option maxRecDepth 100000 in
theorem c_X5_openBut (l : Launch) (D : va_G) (cI cZ cW : ClassId) (q0 : Nat → Nat) (p0 : Int32) (s0 : CS) (Q : Int32 → Prop) (hf : wp_X5_openBut p0 s0 Q) : Met l yX5_openBut (wsA yX5_openBut cX5_openBut 2 (some .int)) ({ frames := 1, cells := 0, slots := 0, locals := 23 }) (PR D cI cZ cW [.ref (q0 0), .int p0] (wW cI cZ q0 s0)) (vp_Si Q) 0 0 (fun _ => False) := by
  refine Met.ofW (cc := cX5_openBut) (maxL := 2) (ret := (some .int)) (by decide) rfl ?_
  intro p e s m args below meth c s₁ B hml hv
  obtain ⟨rfl, hP, hK⟩ := hv
  have hx := B.exec
  have hb := B.bytes
  have hr := B.returns
  have hts := atoms_spec (ws := (wsA yX5_openBut cX5_openBut 2 (some .int))) B.pre
  have ht : ∀ w ∈ lw_g, w.before _ s = true := fun w h => hts w (List.mem_cons_of_mem _ h)
  have hown : s.vm.findClass RX5 = some m.cls := findClass_of_methodNamed B.named
  have hlocks := B.notSynchronized
  have hl := lv_entry ([.ref (q0 0), .int p0]) (n := 2) (Nat.le_of_ble_eq_true rfl)
  rw [lg_entry_eq]
  generalize (lg_sl ([.ref (q0 0), .int p0]) ++ List.replicate (2 - (lg_sl ([.ref (q0 0), .int p0])).length) Slot.unset).toArray = ls at hl ⊢
  have hl : lv_has ls 2 [(0, .ref (q0 0)), (1, .int p0)] := hl
  unfold wp_X5_openBut at hf
  refine lv_aload_n hx hb dX5_openBut_0 rfl (lv_at hl 0 rfl) ?_
  refine lv_iload_n hx hb dX5_openBut_1 rfl (lv_at hl 1 rfl) ?_
  refine lv_iconst (v := (-1 : Int32)) hx hb dX5_openBut_2 (by decide) ?_
  refine lv_ixor hx hb dX5_openBut_3 ?_
  have hPc : va_P D classes (wW cI cZ q0 s0) s.heap := hP
  refine vp_callSi (W.runV (As := [.int (p0 ^^^ (-1 : Int32))]) (rest := []) ⟨hx, hb, hml, hown, hts⟩ (c_X5_cellsOfHoles l D cI cZ cW q0 (p0 ^^^ (-1 : Int32)) s0 _ hf) ⟨callB_of 1 hts (gA tw_604) rfl rfl rfl (ht _ tw_4) (ht _ tw_601) hd_X5_cellsOfHoles ⟨Nat.le_of_ble_eq_true rfl, Nat.le_of_ble_eq_true rfl⟩, ht _ tw_602, ht _ tw_603⟩ ⟨PR_blind, va_recv hK hP (ci := 3) (q0 := 0) rfl rfl, fun U hU hW => PR_mk hPc hK hU hW⟩ rfl rfl hl.1 rfl (lv_room (Nat.le_of_ble_eq_true rfl)) dX5_openBut_4 ⟨Nat.zero_le _, Nat.zero_le _⟩) (fun r_1 hf => ?_)
  refine lv_aload_n hx hb dX5_openBut_7 rfl (lv_at hl 0 rfl) ?_
  refine va_get (D := D) (ci := 3) (v := .int (s0.1 4)) (C := RX5) (T := TX5) (N := 6) hx hb ht inX5 hown hK hP 0 rfl rfl 4 (by decide) (ht _ tw_98) (fun _ h9 => h9) rfl dX5_openBut_8 ?_
  refine lv_ior hx hb dX5_openBut_11 ?_
  exact W.iret (v := (r_1 ||| (s0.1 4))) hx hb hr (fun t ht hW => ⟨(r_1 ||| (s0.1 4)), rfl, hf, ht⟩) (fun q h => absurd h List.not_mem_nil) dX5_openBut_12
def wp_X5_pasteCells (s0 : CS) (Q : Int32 → Prop) : Prop := wp_X5_holeCells s0 (fun r_1 => Q ((1048575 : Int32) &&& ((r_1 ||| (s0.1 4)) ^^^ (-1 : Int32))))
set_option maxHeartbeats 4000000 in
set_option maxRecDepth 100000 in
theorem c_X5_pasteCells (l : Launch) (D : va_G) (cI cZ cW : ClassId) (q0 : Nat → Nat) (s0 : CS) (Q : Int32 → Prop) (hf : wp_X5_pasteCells s0 Q) : Met l yX5_pasteCells (wsA yX5_pasteCells cX5_pasteCells 1 (some .int)) ({ frames := 1, cells := 0, slots := 0, locals := 22 }) (PR D cI cZ cW [.ref (q0 0)] (wW cI cZ q0 s0)) (vp_Si Q) 0 0 (fun _ => False) := by
  refine Met.ofW (cc := cX5_pasteCells) (maxL := 1) (ret := (some .int)) (by decide) rfl ?_
  intro p e s m args below meth c s₁ B hml hv
  obtain ⟨rfl, hP, hK⟩ := hv
  have hx := B.exec
  have hb := B.bytes
  have hr := B.returns
  have hts := atoms_spec (ws := (wsA yX5_pasteCells cX5_pasteCells 1 (some .int))) B.pre
  have ht : ∀ w ∈ lw_g, w.before _ s = true := fun w h => hts w (List.mem_cons_of_mem _ h)
  have hown : s.vm.findClass RX5 = some m.cls := findClass_of_methodNamed B.named
  have hlocks := B.notSynchronized
  have hl := lv_entry ([.ref (q0 0)]) (n := 1) (Nat.le_of_ble_eq_true rfl)
  rw [lg_entry_eq]
  generalize (lg_sl ([.ref (q0 0)]) ++ List.replicate (1 - (lg_sl ([.ref (q0 0)])).length) Slot.unset).toArray = ls at hl ⊢
  have hl : lv_has ls 1 [(0, .ref (q0 0))] := hl
  unfold wp_X5_pasteCells at hf
  refine lv_ldc (v := (1048575 : Int32)) hx hb hown (ht _ tw_297) dX5_pasteCells_0 ?_
  refine lv_aload_n hx hb dX5_pasteCells_2 rfl (lv_at hl 0 rfl) ?_
  have hPc : va_P D classes (wW cI cZ q0 s0) s.heap := hP
  refine vp_callSi (W.runV (As := []) (rest := [.int (1048575 : Int32)]) ⟨hx, hb, hml, hown, hts⟩ (c_X5_holeCells l D cI cZ cW q0 s0 _ hf) ⟨callB_of 0 hts (gA tw_301) rfl rfl rfl (ht _ tw_4) (ht _ tw_298) hd_X5_holeCells ⟨Nat.le_of_ble_eq_true rfl, Nat.le_of_ble_eq_true rfl⟩, ht _ tw_299, ht _ tw_300⟩ ⟨PR_blind, va_recv hK hP (ci := 3) (q0 := 0) rfl rfl, fun U hU hW => PR_mk hPc hK hU hW⟩ rfl rfl hl.1 rfl (lv_room (Nat.le_of_ble_eq_true rfl)) dX5_pasteCells_3 ⟨Nat.zero_le _, Nat.zero_le _⟩) (fun r_1 hf => ?_)
  refine lv_aload_n hx hb dX5_pasteCells_6 rfl (lv_at hl 0 rfl) ?_
  refine va_get (D := D) (ci := 3) (v := .int (s0.1 4)) (C := RX5) (T := TX5) (N := 6) hx hb ht inX5 hown hK hP 0 rfl rfl 4 (by decide) (ht _ tw_98) (fun _ h9 => h9) rfl dX5_pasteCells_7 ?_
  refine lv_ior hx hb dX5_pasteCells_10 ?_
  refine lv_iconst (v := (-1 : Int32)) hx hb dX5_pasteCells_11 (by decide) ?_
  refine lv_ixor hx hb dX5_pasteCells_12 ?_
  refine lv_iand hx hb dX5_pasteCells_13 ?_
  exact W.iret (v := ((1048575 : Int32) &&& ((r_1 ||| (s0.1 4)) ^^^ (-1 : Int32)))) hx hb hr (fun t ht hW => ⟨((1048575 : Int32) &&& ((r_1 ||| (s0.1 4)) ^^^ (-1 : Int32))), rfl, hf, ht⟩) (fun q h => absurd h List.not_mem_nil) dX5_pasteCells_14
def wp_X5_softPaste (s0 : CS) (s1 : CS) (Q : Int32 → Prop) : Prop := wp_X5_holeCells s0 (fun r_1 => Q ((1048575 : Int32) &&& (((r_1 ||| (s0.1 4)) ||| (s1.1 7)) ^^^ (-1 : Int32))))
set_option maxHeartbeats 4000000 in
set_option maxRecDepth 100000 in
theorem c_X5_softPaste (l : Launch) (D : va_G) (cI cZ cW : ClassId) (q0 : Nat → Nat) (q1 : Nat → Nat) (s0 : CS) (s1 : CS) (Q : Int32 → Prop) (hf : wp_X5_softPaste s0 s1 Q) : Met l yX5_softPaste (wsA yX5_softPaste cX5_softPaste 2 (some .int)) ({ frames := 1, cells := 0, slots := 0, locals := 22 }) (PR D cI cZ cW [.ref (q0 0), .ref (q1 0)] (wW cI cZ q0 s0 ++ wD cI cZ q1 s1)) (vp_Si Q) 0 0 (fun _ => False) := by
  refine Met.ofW (cc := cX5_softPaste) (maxL := 2) (ret := (some .int)) (by decide) rfl ?_
  intro p e s m args below meth c s₁ B hml hv
  obtain ⟨rfl, hP, hK⟩ := hv
  have hx := B.exec
  have hb := B.bytes
  have hr := B.returns
  have hts := atoms_spec (ws := (wsA yX5_softPaste cX5_softPaste 2 (some .int))) B.pre
  have ht : ∀ w ∈ lw_g, w.before _ s = true := fun w h => hts w (List.mem_cons_of_mem _ h)
  have hown : s.vm.findClass RX5 = some m.cls := findClass_of_methodNamed B.named
  have hlocks := B.notSynchronized
  have hl := lv_entry ([.ref (q0 0), .ref (q1 0)]) (n := 2) (Nat.le_of_ble_eq_true rfl)
  rw [lg_entry_eq]
  generalize (lg_sl ([.ref (q0 0), .ref (q1 0)]) ++ List.replicate (2 - (lg_sl ([.ref (q0 0), .ref (q1 0)])).length) Slot.unset).toArray = ls at hl ⊢
  have hl : lv_has ls 2 [(0, .ref (q0 0)), (1, .ref (q1 0))] := hl
  unfold wp_X5_softPaste at hf
  refine lv_ldc (v := (1048575 : Int32)) hx hb hown (ht _ tw_297) dX5_softPaste_0 ?_
  refine lv_aload_n hx hb dX5_softPaste_2 rfl (lv_at hl 0 rfl) ?_
  have hPc : va_P D classes (wW cI cZ q0 s0) s.heap := hP.sub [0, 1, 2, 3, 4] rfl
  refine vp_callSi (W.runV (As := []) (rest := [.int (1048575 : Int32)]) ⟨hx, hb, hml, hown, hts⟩ (c_X5_holeCells l D cI cZ cW q0 s0 _ hf) ⟨callB_of 0 hts (gA tw_301) rfl rfl rfl (ht _ tw_4) (ht _ tw_298) hd_X5_holeCells ⟨Nat.le_of_ble_eq_true rfl, Nat.le_of_ble_eq_true rfl⟩, ht _ tw_299, ht _ tw_300⟩ ⟨PR_blind, va_recv hK hP (ci := 3) (q0 := 0) rfl rfl, fun U hU hW => PR_mk hPc hK hU hW⟩ rfl rfl hl.1 rfl (lv_room (Nat.le_of_ble_eq_true rfl)) dX5_softPaste_3 ⟨Nat.zero_le _, Nat.zero_le _⟩) (fun r_1 hf => ?_)
  refine lv_aload_n hx hb dX5_softPaste_6 rfl (lv_at hl 0 rfl) ?_
  refine va_get (D := D) (ci := 3) (v := .int (s0.1 4)) (C := RX5) (T := TX5) (N := 6) hx hb ht inX5 hown hK hP 0 rfl rfl 4 (by decide) (ht _ tw_98) (fun _ h9 => h9) rfl dX5_softPaste_7 ?_
  refine lv_ior hx hb dX5_softPaste_10 ?_
  refine lv_aload_n hx hb dX5_softPaste_11 rfl (lv_at hl 1 rfl) ?_
  refine va_get (D := D) (ci := 1) (v := .int (s1.1 7)) (C := RX1) (T := TX1) (N := 14) hx hb ht inX1 hown hK hP 5 rfl rfl 7 (by decide) (ht _ tw_47) (fun _ h9 => h9) rfl dX5_softPaste_12 ?_
  refine lv_ior hx hb dX5_softPaste_15 ?_
  refine lv_iconst (v := (-1 : Int32)) hx hb dX5_softPaste_16 (by decide) ?_
  refine lv_ixor hx hb dX5_softPaste_17 ?_
  refine lv_iand hx hb dX5_softPaste_18 ?_
  exact W.iret (v := ((1048575 : Int32) &&& (((r_1 ||| (s0.1 4)) ||| (s1.1 7)) ^^^ (-1 : Int32)))) hx hb hr (fun t ht hW => ⟨((1048575 : Int32) &&& (((r_1 ||| (s0.1 4)) ||| (s1.1 7)) ^^^ (-1 : Int32))), rfl, hf, ht⟩) (fun q h => absurd h List.not_mem_nil) dX5_softPaste_19
def B_X5_ownedBy_57 (G14 : (Int32 × Int32 × Int32) → Prop) (s0 : CS) (s1 : CS) (x2 : Int32) (x3 : Int32) (x4 : Int32) (Q : Int32 → Prop) : Prop := ∀ x4_1 : Int32, x4_1 = x4 + (1 : Int32) → G14 (x2, x3, x4_1)
def LB_X5_ownedBy_14 (G14 : (Int32 × Int32 × Int32) → Prop) (s0 : CS) (s1 : CS) (x2 : Int32) (x3 : Int32) (x4 : Int32) (Q : Int32 → Prop) : Prop := (((5 : Int32) ≤ x4 → Q x3) ∧ (¬ (5 : Int32) ≤ x4 → vp_in x4 5 ∧ ∀ x5_4 : Int32, x5_4 = ((s0.2.1 1) x4.toNatClampNeg) → wp_X1_hasOwner x5_4 s1 (fun r_5 => ((r_5 = 0 → B_X5_ownedBy_57 G14 s0 s1 x2 x3 x4 Q) ∧ (¬ r_5 = 0 → (((x2 &&& ((1 : Int32) <<< (x5_4 &&& 31))) = 0 → B_X5_ownedBy_57 G14 s0 s1 x2 x3 x4 Q) ∧ (¬ (x2 &&& ((1 : Int32) <<< (x5_4 &&& 31))) = 0 → vp_in x4 5 ∧ ∀ x3_9 : Int32, x3_9 = (x3 ||| ((s0.2.1 0) x4.toNatClampNeg)) → B_X5_ownedBy_57 G14 s0 s1 x2 x3_9 x4 Q)))))))
def B_X5_ownedBy_14 (s0 : CS) (s1 : CS) (x2 : Int32) (x3 : Int32) (x4 : Int32) (Q : Int32 → Prop) : Prop := LOOP (fun (G14 : (Int32 × Int32 × Int32) → Prop) z => LB_X5_ownedBy_14 G14 s0 s1 z.1 z.2.1 z.2.2 Q) (x2, x3, x4)
def wp_X5_ownedBy (p1 : Int32) (s0 : CS) (s1 : CS) (Q : Int32 → Prop) : Prop := wp_X1_rowCellsOf p1 s1 (fun r_10 => wp_X5_pasteCells s0 (fun r_11 => ∀ x3_12 : Int32, x3_12 = (r_10 &&& r_11) → B_X5_ownedBy_14 s0 s1 p1 x3_12 (0 : Int32) Q))
set_option maxHeartbeats 4000000 in
set_option maxRecDepth 100000 in
theorem c_X5_ownedBy (l : Launch) (D : va_G) (cI cZ cW : ClassId) (q0 : Nat → Nat) (q1 : Nat → Nat) (p1 : Int32) (s0 : CS) (s1 : CS) (Q : Int32 → Prop) (hf : wp_X5_ownedBy p1 s0 s1 Q) : Met l yX5_ownedBy (wsA yX5_ownedBy cX5_ownedBy 6 (some .int)) ({ frames := 2, cells := 0, slots := 0, locals := 45 }) (PR D cI cZ cW [.ref (q0 0), .ref (q1 0), .int p1] (wW cI cZ q0 s0 ++ wD cI cZ q1 s1)) (vp_Si Q) 0 0 (fun _ => False) := by
  refine Met.ofW (cc := cX5_ownedBy) (maxL := 6) (ret := (some .int)) (by decide) rfl ?_
  intro p e s m args below meth c s₁ B hml hv
  obtain ⟨rfl, hP, hK⟩ := hv
  have hx := B.exec
  have hb := B.bytes
  have hr := B.returns
  have hts := atoms_spec (ws := (wsA yX5_ownedBy cX5_ownedBy 6 (some .int))) B.pre
  have ht : ∀ w ∈ lw_g, w.before _ s = true := fun w h => hts w (List.mem_cons_of_mem _ h)
  have hown : s.vm.findClass RX5 = some m.cls := findClass_of_methodNamed B.named
  have hlocks := B.notSynchronized
  have hl := lv_entry ([.ref (q0 0), .ref (q1 0), .int p1]) (n := 6) (Nat.le_of_ble_eq_true rfl)
  rw [lg_entry_eq]
  generalize (lg_sl ([.ref (q0 0), .ref (q1 0), .int p1]) ++ List.replicate (6 - (lg_sl ([.ref (q0 0), .ref (q1 0), .int p1])).length) Slot.unset).toArray = ls at hl ⊢
  have hl : lv_has ls 6 [(0, .ref (q0 0)), (1, .ref (q1 0)), (2, .int p1)] := hl
  unfold wp_X5_ownedBy at hf
  have k_14 : ∀ (x2 : Int32) (x3 : Int32) (x4 : Int32) (ls : Array Slot), B_X5_ownedBy_14 s0 s1 x2 x3 x4 Q → lv_has ls 6 [(0, .ref (q0 0)), (1, .ref (q1 0)), (2, .int x2), (3, .int x3), (4, .int x4)] → W p l e (headSpec (wsA yX5_ownedBy cX5_ownedBy 6 (some .int)) ({ frames := 2, cells := 0, slots := 0, locals := 45 })).room s m (#[.ref (q0 0), .ref (q1 0), .int p1] : Array Value) below meth c s.heap [] 0 0 (MQ below (vp_Si Q) (#[.ref (q0 0), .ref (q1 0), .int p1] : Array Value) s 0 0 (fun _ => False)) (F0 m 14 ls []) := by
    intro x2 x3 x4 ls hf hl
    unfold B_X5_ownedBy_14 at hf
    obtain ⟨I_14, ⟨n0_14, hI0_14⟩, hst_14⟩ := hf
    have main_14 : ∀ (n : Nat) (x2 : Int32) (x3 : Int32) (x4 : Int32) (ls : Array Slot), I_14 n (x2, x3, x4) → lv_has ls 6 [(0, .ref (q0 0)), (1, .ref (q1 0)), (2, .int x2), (3, .int x3), (4, .int x4)] → W p l e (headSpec (wsA yX5_ownedBy cX5_ownedBy 6 (some .int)) ({ frames := 2, cells := 0, slots := 0, locals := 45 })).room s m (#[.ref (q0 0), .ref (q1 0), .int p1] : Array Value) below meth c s.heap [] 0 0 (MQ below (vp_Si Q) (#[.ref (q0 0), .ref (q1 0), .int p1] : Array Value) s 0 0 (fun _ => False)) (F0 m 14 ls []) := by
      intro n
      induction n using Nat.strongRecOn with
      | _ n_14 ih_14 =>
      intro x2 x3 x4 ls hI hl
      have hf : LB_X5_ownedBy_14 (fun z => ∃ k, k < n_14 ∧ I_14 k z) s0 s1 x2 x3 x4 Q := hst_14 n_14 (x2, x3, x4) hI
      have hG_14 : ∀ (x2 : Int32) (x3 : Int32) (x4 : Int32) (ls : Array Slot), (∃ k, k < n_14 ∧ I_14 k (x2, x3, x4)) → lv_has ls 6 [(0, .ref (q0 0)), (1, .ref (q1 0)), (2, .int x2), (3, .int x3), (4, .int x4)] → W p l e (headSpec (wsA yX5_ownedBy cX5_ownedBy 6 (some .int)) ({ frames := 2, cells := 0, slots := 0, locals := 45 })).room s m (#[.ref (q0 0), .ref (q1 0), .int p1] : Array Value) below meth c s.heap [] 0 0 (MQ below (vp_Si Q) (#[.ref (q0 0), .ref (q1 0), .int p1] : Array Value) s 0 0 (fun _ => False)) (F0 m 14 ls []) := by
        rintro x2 x3 x4 ls ⟨k, hk, hI⟩ hl
        exact ih_14 k hk x2 x3 x4 ls hI hl
      unfold LB_X5_ownedBy_14 at hf
      have k_57 : ∀ (x2 : Int32) (x3 : Int32) (x4 : Int32) (ls : Array Slot), B_X5_ownedBy_57 (fun z => ∃ k, k < n_14 ∧ I_14 k z) s0 s1 x2 x3 x4 Q → lv_has ls 6 [(0, .ref (q0 0)), (1, .ref (q1 0)), (2, .int x2), (3, .int x3), (4, .int x4)] → W p l e (headSpec (wsA yX5_ownedBy cX5_ownedBy 6 (some .int)) ({ frames := 2, cells := 0, slots := 0, locals := 45 })).room s m (#[.ref (q0 0), .ref (q1 0), .int p1] : Array Value) below meth c s.heap [] 0 0 (MQ below (vp_Si Q) (#[.ref (q0 0), .ref (q1 0), .int p1] : Array Value) s 0 0 (fun _ => False)) (F0 m 57 ls []) := by
        intro x2 x3 x4 ls hf hl
        unfold B_X5_ownedBy_57 at hf
        obtain ⟨x4_1, ex4_1⟩ : ∃ y : Int32, y = x4 + (1 : Int32) := ⟨_, rfl⟩
        have hf := hf x4_1 ex4_1
        refine lv_iinc (v := x4_1) (lv' := [(4, .int x4_1), (0, .ref (q0 0)), (1, .ref (q1 0)), (2, .int x2), (3, .int x3)]) hx hb dX5_ownedBy_57 hl (k := 4) rfl (by rw [ex4_1]; rfl) (by decide) rfl (fun ls hl => ?_)
        refine lv_goto (tgt := 14) hx hb dX5_ownedBy_60 (by decide) ?_
        exact hG_14 x2 x3 x4_1 ls hf (lv_sub hl [1, 2, 3, 4, 0] rfl)
      refine lv_iload hx hb dX5_ownedBy_14 (lv_at hl 4 rfl) ?_
      refine lv_iconst (v := (5 : Int32)) hx hb dX5_ownedBy_16 (by decide) ?_
      refine lv_icmp_ge (tgt := 63) hx hb dX5_ownedBy_17 (by decide) (fun c_2 => ?_) (fun c_2 => ?_)
      · have hf := hf.1 c_2
        refine lv_iload_n hx hb dX5_ownedBy_63 rfl (lv_at hl 3 rfl) ?_
        exact W.iret (v := x3) hx hb hr (fun t ht hW => ⟨x3, rfl, hf, ht⟩) (fun q h => absurd h List.not_mem_nil) dX5_ownedBy_64
      · have hf := hf.2 c_2
        refine lv_aload_n hx hb dX5_ownedBy_20 rfl (lv_at hl 0 rfl) ?_
        refine va_get (D := D) (ci := 3) (v := .ref (q0 2)) (C := RX5) (T := TX5) (N := 6) hx hb ht inX5 hown hK hP 0 rfl rfl 1 (by decide) (ht _ tw_92) (fun _ h9 => h9) rfl dX5_ownedBy_21 ?_
        refine lv_iload hx hb dX5_ownedBy_24 (lv_at hl 4 rfl) ?_
        obtain ⟨hi_3, hf⟩ := hf
        refine va_iald hx hb hK hP 2 0 rfl rfl hi_3 dX5_ownedBy_26 ?_
        refine lv_topi (fun x5_4 ex5_4 => ?_)
        have hf := hf x5_4 ex5_4
        refine lv_istore (lv' := [(5, .int x5_4), (0, .ref (q0 0)), (1, .ref (q1 0)), (2, .int x2), (3, .int x3), (4, .int x4)]) hx hb dX5_ownedBy_27 hl (by decide) rfl (fun ls hl => ?_)
        refine lv_aload_n hx hb dX5_ownedBy_29 rfl (lv_at hl 2 rfl) ?_
        refine lv_iload hx hb dX5_ownedBy_30 (lv_at hl 0 rfl) ?_
        have hPc : va_P D classes (wD cI cZ q1 s1) s.heap := hP.sub [5, 6, 7, 8, 9, 10] rfl
        refine vp_callSi (W.runV (As := [.int x5_4]) (rest := []) ⟨hx, hb, hml, hown, hts⟩ (c_X1_hasOwner l D cI cZ cW q1 x5_4 s1 _ hf) ⟨callB_of 1 hts (gA tw_232) rfl rfl rfl (ht _ tw_2) (ht _ tw_302) hd_X1_hasOwner ⟨Nat.le_of_ble_eq_true rfl, Nat.le_of_ble_eq_true rfl⟩, ht _ tw_230, ht _ tw_231⟩ ⟨PR_blind, va_recv hK hP (ci := 1) (q0 := 5) rfl rfl, fun U hU hW => PR_mk hPc hK hU hW⟩ rfl rfl hl.1 rfl (lv_room (Nat.le_of_ble_eq_true rfl)) dX5_ownedBy_32 ⟨Nat.zero_le _, Nat.zero_le _⟩) (fun r_5 hf => ?_)
        refine lv_if_eq (tgt := 57) hx hb dX5_ownedBy_35 (by decide) (fun c_6 => ?_) (fun c_6 => ?_)
        · have hf := hf.1 c_6
          exact k_57 x2 x3 x4 ls hf (lv_sub hl [1, 2, 3, 4, 5] rfl)
        · have hf := hf.2 c_6
          refine lv_iload_n hx hb dX5_ownedBy_38 rfl (lv_at hl 3 rfl) ?_
          refine lv_iconst (v := (1 : Int32)) hx hb dX5_ownedBy_39 (by decide) ?_
          refine lv_iload hx hb dX5_ownedBy_40 (lv_at hl 0 rfl) ?_
          refine lv_ishl hx hb dX5_ownedBy_42 ?_
          refine lv_iand hx hb dX5_ownedBy_43 ?_
          refine lv_if_eq (tgt := 57) hx hb dX5_ownedBy_44 (by decide) (fun c_7 => ?_) (fun c_7 => ?_)
          · have hf := hf.1 c_7
            exact k_57 x2 x3 x4 ls hf (lv_sub hl [1, 2, 3, 4, 5] rfl)
          · have hf := hf.2 c_7
            refine lv_iload_n hx hb dX5_ownedBy_47 rfl (lv_at hl 4 rfl) ?_
            refine lv_aload_n hx hb dX5_ownedBy_48 rfl (lv_at hl 1 rfl) ?_
            refine va_get (D := D) (ci := 3) (v := .ref (q0 1)) (C := RX5) (T := TX5) (N := 6) hx hb ht inX5 hown hK hP 0 rfl rfl 0 (by decide) (ht _ tw_91) (fun _ h9 => h9) rfl dX5_ownedBy_49 ?_
            refine lv_iload hx hb dX5_ownedBy_52 (lv_at hl 5 rfl) ?_
            obtain ⟨hi_8, hf⟩ := hf
            refine va_iald hx hb hK hP 1 0 rfl rfl hi_8 dX5_ownedBy_54 ?_
            refine lv_ior hx hb dX5_ownedBy_55 ?_
            refine lv_topi (fun x3_9 ex3_9 => ?_)
            have hf := hf x3_9 ex3_9
            refine lv_istore_n (lv' := [(3, .int x3_9), (5, .int x5_4), (0, .ref (q0 0)), (1, .ref (q1 0)), (2, .int x2), (4, .int x4)]) hx hb dX5_ownedBy_56 rfl hl (by decide) rfl (fun ls hl => ?_)
            exact k_57 x2 x3_9 x4 ls hf (lv_sub hl [2, 3, 4, 0, 5] rfl)
    exact main_14 n0_14 x2 x3 x4 ls hI0_14 hl
  refine lv_aload_n hx hb dX5_ownedBy_0 rfl (lv_at hl 1 rfl) ?_
  refine lv_iload_n hx hb dX5_ownedBy_1 rfl (lv_at hl 2 rfl) ?_
  have hPc : va_P D classes (wD cI cZ q1 s1) s.heap := hP.sub [5, 6, 7, 8, 9, 10] rfl
  refine vp_callSi (W.runV (As := [.int p1]) (rest := []) ⟨hx, hb, hml, hown, hts⟩ (c_X1_rowCellsOf l D cI cZ cW q1 p1 s1 _ hf) ⟨callB_of 1 hts (gA tw_292) rfl rfl rfl (ht _ tw_2) (ht _ tw_289) hd_X1_rowCellsOf ⟨Nat.le_of_ble_eq_true rfl, Nat.le_of_ble_eq_true rfl⟩, ht _ tw_290, ht _ tw_291⟩ ⟨PR_blind, va_recv hK hP (ci := 1) (q0 := 5) rfl rfl, fun U hU hW => PR_mk hPc hK hU hW⟩ rfl rfl hl.1 rfl (lv_room (Nat.le_of_ble_eq_true rfl)) dX5_ownedBy_2 ⟨Nat.zero_le _, Nat.zero_le _⟩) (fun r_10 hf => ?_)
  refine lv_aload_n hx hb dX5_ownedBy_5 rfl (lv_at hl 0 rfl) ?_
  have hPc : va_P D classes (wW cI cZ q0 s0) s.heap := hP.sub [0, 1, 2, 3, 4] rfl
  refine vp_callSi (W.runV (As := []) (rest := [.int r_10]) ⟨hx, hb, hml, hown, hts⟩ (c_X5_pasteCells l D cI cZ cW q0 s0 _ hf) ⟨callB_of 0 hts (gA tw_296) rfl rfl rfl (ht _ tw_4) (ht _ tw_293) hd_X5_pasteCells ⟨Nat.le_of_ble_eq_true rfl, Nat.le_of_ble_eq_true rfl⟩, ht _ tw_294, ht _ tw_295⟩ ⟨PR_blind, va_recv hK hP (ci := 3) (q0 := 0) rfl rfl, fun U hU hW => PR_mk hPc hK hU hW⟩ rfl rfl hl.1 rfl (lv_room (Nat.le_of_ble_eq_true rfl)) dX5_ownedBy_6 ⟨Nat.zero_le _, Nat.zero_le _⟩) (fun r_11 hf => ?_)
  refine lv_iand hx hb dX5_ownedBy_9 ?_
  refine lv_topi (fun x3_12 ex3_12 => ?_)
  have hf := hf x3_12 ex3_12
  refine lv_istore_n (lv' := [(3, .int x3_12), (0, .ref (q0 0)), (1, .ref (q1 0)), (2, .int p1)]) hx hb dX5_ownedBy_10 rfl hl (by decide) rfl (fun ls hl => ?_)
  refine lv_iconst (v := (0 : Int32)) hx hb dX5_ownedBy_11 (by decide) ?_
  refine lv_istore (lv' := [(4, .int (0 : Int32)), (3, .int x3_12), (0, .ref (q0 0)), (1, .ref (q1 0)), (2, .int p1)]) hx hb dX5_ownedBy_12 hl (by decide) rfl (fun ls hl => ?_)
  exact k_14 p1 x3_12 (0 : Int32) ls hf (lv_sub hl [2, 3, 4, 1, 0] rfl)
def wp_X5_stuffAt (p0 : Int32) (s0 : CS) (Q : Int32 → Prop) : Prop := wp_X2_bitOf p0 (fun r_1 => ((((s0.1 4) &&& r_1) = 0 → wp_X5_holeCells s0 (fun r_3 => (((r_3 &&& r_1) = 0 → Q (0 : Int32)) ∧ (¬ (r_3 &&& r_1) = 0 → Q (1 : Int32))))) ∧ (¬ ((s0.1 4) &&& r_1) = 0 → Q (2 : Int32))))
set_option maxHeartbeats 4000000 in
set_option maxRecDepth 100000 in
theorem c_X5_stuffAt (l : Launch) (D : va_G) (cI cZ cW : ClassId) (q0 : Nat → Nat) (p0 : Int32) (s0 : CS) (Q : Int32 → Prop) (hf : wp_X5_stuffAt p0 s0 Q) : Met l yX5_stuffAt (wsA yX5_stuffAt cX5_stuffAt 3 (some .int)) ({ frames := 2, cells := 0, slots := 0, locals := 40 }) (PR D cI cZ cW [.ref (q0 0), .int p0] (wW cI cZ q0 s0)) (vp_Si Q) 0 0 (fun _ => False) := by
  refine Met.ofW (cc := cX5_stuffAt) (maxL := 3) (ret := (some .int)) (by decide) rfl ?_
  intro p e s m args below meth c s₁ B hml hv
  obtain ⟨rfl, hP, hK⟩ := hv
  have hx := B.exec
  have hb := B.bytes
  have hr := B.returns
  have hts := atoms_spec (ws := (wsA yX5_stuffAt cX5_stuffAt 3 (some .int))) B.pre
  have ht : ∀ w ∈ lw_g, w.before _ s = true := fun w h => hts w (List.mem_cons_of_mem _ h)
  have hown : s.vm.findClass RX5 = some m.cls := findClass_of_methodNamed B.named
  have hlocks := B.notSynchronized
  have hl := lv_entry ([.ref (q0 0), .int p0]) (n := 3) (Nat.le_of_ble_eq_true rfl)
  rw [lg_entry_eq]
  generalize (lg_sl ([.ref (q0 0), .int p0]) ++ List.replicate (3 - (lg_sl ([.ref (q0 0), .int p0])).length) Slot.unset).toArray = ls at hl ⊢
  have hl : lv_has ls 3 [(0, .ref (q0 0)), (1, .int p0)] := hl
  unfold wp_X5_stuffAt at hf
  refine lv_iload_n hx hb dX5_stuffAt_0 rfl (lv_at hl 1 rfl) ?_
  have hPc : va_P D classes ([] : va_W) s.heap := hP.sub [] rfl
  refine vp_callSi (W.runS (As := [.int p0]) (rest := []) ⟨hx, hb, hml, hown, hts⟩ (c_X2_bitOf l D cI cZ cW  p0 _ hf) ⟨callB_of 1 hts (gA tw_248) rfl rfl rfl (ht _ tw_9) (ht _ tw_266) hd_X2_bitOf ⟨Nat.le_of_ble_eq_true rfl, Nat.le_of_ble_eq_true rfl⟩, ht _ tw_247⟩ ⟨PR_blind, fun U hU hW => PR_mk hPc hK hU hW⟩ rfl rfl hl.1 rfl (lv_room (Nat.le_of_ble_eq_true rfl)) dX5_stuffAt_1 ⟨Nat.zero_le _, Nat.zero_le _⟩) (fun r_1 hf => ?_)
  refine lv_istore_n (lv' := [(2, .int r_1), (0, .ref (q0 0)), (1, .int p0)]) hx hb dX5_stuffAt_4 rfl hl (by decide) rfl (fun ls hl => ?_)
  refine lv_aload_n hx hb dX5_stuffAt_5 rfl (lv_at hl 1 rfl) ?_
  refine va_get (D := D) (ci := 3) (v := .int (s0.1 4)) (C := RX5) (T := TX5) (N := 6) hx hb ht inX5 hown hK hP 0 rfl rfl 4 (by decide) (ht _ tw_98) (fun _ h9 => h9) rfl dX5_stuffAt_6 ?_
  refine lv_iload_n hx hb dX5_stuffAt_9 rfl (lv_at hl 0 rfl) ?_
  refine lv_iand hx hb dX5_stuffAt_10 ?_
  refine lv_if_eq (tgt := 16) hx hb dX5_stuffAt_11 (by decide) (fun c_2 => ?_) (fun c_2 => ?_)
  · have hf := hf.1 c_2
    refine lv_aload_n hx hb dX5_stuffAt_16 rfl (lv_at hl 1 rfl) ?_
    have hPc : va_P D classes (wW cI cZ q0 s0) s.heap := hP
    refine vp_callSi (W.runV (As := []) (rest := []) ⟨hx, hb, hml, hown, hts⟩ (c_X5_holeCells l D cI cZ cW q0 s0 _ hf) ⟨callB_of 0 hts (gA tw_301) rfl rfl rfl (ht _ tw_4) (ht _ tw_298) hd_X5_holeCells ⟨Nat.le_of_ble_eq_true rfl, Nat.le_of_ble_eq_true rfl⟩, ht _ tw_299, ht _ tw_300⟩ ⟨PR_blind, va_recv hK hP (ci := 3) (q0 := 0) rfl rfl, fun U hU hW => PR_mk hPc hK hU hW⟩ rfl rfl hl.1 rfl (lv_room (Nat.le_of_ble_eq_true rfl)) dX5_stuffAt_17 ⟨Nat.zero_le _, Nat.zero_le _⟩) (fun r_3 hf => ?_)
    refine lv_iload_n hx hb dX5_stuffAt_20 rfl (lv_at hl 0 rfl) ?_
    refine lv_iand hx hb dX5_stuffAt_21 ?_
    refine lv_if_eq (tgt := 29) hx hb dX5_stuffAt_22 (by decide) (fun c_4 => ?_) (fun c_4 => ?_)
    · have hf := hf.1 c_4
      refine lv_iconst (v := (0 : Int32)) hx hb dX5_stuffAt_29 (by decide) ?_
      exact W.iret (v := (0 : Int32)) hx hb hr (fun t ht hW => ⟨(0 : Int32), rfl, hf, ht⟩) (fun q h => absurd h List.not_mem_nil) dX5_stuffAt_30
    · have hf := hf.2 c_4
      refine lv_iconst (v := (1 : Int32)) hx hb dX5_stuffAt_25 (by decide) ?_
      refine lv_goto (tgt := 30) hx hb dX5_stuffAt_26 (by decide) ?_
      exact W.iret (v := (1 : Int32)) hx hb hr (fun t ht hW => ⟨(1 : Int32), rfl, hf, ht⟩) (fun q h => absurd h List.not_mem_nil) dX5_stuffAt_30
  · have hf := hf.2 c_2
    refine lv_iconst (v := (2 : Int32)) hx hb dX5_stuffAt_14 (by decide) ?_
    exact W.iret (v := (2 : Int32)) hx hb hr (fun t ht hW => ⟨(2 : Int32), rfl, hf, ht⟩) (fun q h => absurd h List.not_mem_nil) dX5_stuffAt_15
def LB_X5_holeAt_7 (G7 : (Int32 × Int32) → Prop) (s0 : CS) (x2 : Int32) (x3 : Int32) (Q : Int32 → Prop) : Prop := (((5 : Int32) ≤ x3 → Q (-9 : Int32)) ∧ (¬ (5 : Int32) ≤ x3 → vp_in x3 5 ∧ (((((s0.2.1 0) x3.toNatClampNeg) &&& x2) = 0 → ∀ x3_4 : Int32, x3_4 = x3 + (1 : Int32) → G7 (x2, x3_4)) ∧ (¬ (((s0.2.1 0) x3.toNatClampNeg) &&& x2) = 0 → Q x3))))
def B_X5_holeAt_7 (s0 : CS) (x2 : Int32) (x3 : Int32) (Q : Int32 → Prop) : Prop := LOOP (fun (G7 : (Int32 × Int32) → Prop) z => LB_X5_holeAt_7 G7 s0 z.1 z.2 Q) (x2, x3)
def wp_X5_holeAt (p0 : Int32) (s0 : CS) (Q : Int32 → Prop) : Prop := wp_X2_bitOf p0 (fun r_5 => B_X5_holeAt_7 s0 r_5 (0 : Int32) Q)
set_option maxHeartbeats 4000000 in
set_option maxRecDepth 100000 in
theorem c_X5_holeAt (l : Launch) (D : va_G) (cI cZ cW : ClassId) (q0 : Nat → Nat) (p0 : Int32) (s0 : CS) (Q : Int32 → Prop) (hf : wp_X5_holeAt p0 s0 Q) : Met l yX5_holeAt (wsA yX5_holeAt cX5_holeAt 4 (some .int)) ({ frames := 2, cells := 0, slots := 0, locals := 40 }) (PR D cI cZ cW [.ref (q0 0), .int p0] (wW cI cZ q0 s0)) (vp_Si Q) 0 0 (fun _ => False) := by
  refine Met.ofW (cc := cX5_holeAt) (maxL := 4) (ret := (some .int)) (by decide) rfl ?_
  intro p e s m args below meth c s₁ B hml hv
  obtain ⟨rfl, hP, hK⟩ := hv
  have hx := B.exec
  have hb := B.bytes
  have hr := B.returns
  have hts := atoms_spec (ws := (wsA yX5_holeAt cX5_holeAt 4 (some .int))) B.pre
  have ht : ∀ w ∈ lw_g, w.before _ s = true := fun w h => hts w (List.mem_cons_of_mem _ h)
  have hown : s.vm.findClass RX5 = some m.cls := findClass_of_methodNamed B.named
  have hlocks := B.notSynchronized
  have hl := lv_entry ([.ref (q0 0), .int p0]) (n := 4) (Nat.le_of_ble_eq_true rfl)
  rw [lg_entry_eq]
  generalize (lg_sl ([.ref (q0 0), .int p0]) ++ List.replicate (4 - (lg_sl ([.ref (q0 0), .int p0])).length) Slot.unset).toArray = ls at hl ⊢
  have hl : lv_has ls 4 [(0, .ref (q0 0)), (1, .int p0)] := hl
  unfold wp_X5_holeAt at hf
  have k_7 : ∀ (x2 : Int32) (x3 : Int32) (ls : Array Slot), B_X5_holeAt_7 s0 x2 x3 Q → lv_has ls 4 [(0, .ref (q0 0)), (2, .int x2), (3, .int x3)] → W p l e (headSpec (wsA yX5_holeAt cX5_holeAt 4 (some .int)) ({ frames := 2, cells := 0, slots := 0, locals := 40 })).room s m (#[.ref (q0 0), .int p0] : Array Value) below meth c s.heap [] 0 0 (MQ below (vp_Si Q) (#[.ref (q0 0), .int p0] : Array Value) s 0 0 (fun _ => False)) (F0 m 7 ls []) := by
    intro x2 x3 ls hf hl
    unfold B_X5_holeAt_7 at hf
    obtain ⟨I_7, ⟨n0_7, hI0_7⟩, hst_7⟩ := hf
    have main_7 : ∀ (n : Nat) (x2 : Int32) (x3 : Int32) (ls : Array Slot), I_7 n (x2, x3) → lv_has ls 4 [(0, .ref (q0 0)), (2, .int x2), (3, .int x3)] → W p l e (headSpec (wsA yX5_holeAt cX5_holeAt 4 (some .int)) ({ frames := 2, cells := 0, slots := 0, locals := 40 })).room s m (#[.ref (q0 0), .int p0] : Array Value) below meth c s.heap [] 0 0 (MQ below (vp_Si Q) (#[.ref (q0 0), .int p0] : Array Value) s 0 0 (fun _ => False)) (F0 m 7 ls []) := by
      intro n
      induction n using Nat.strongRecOn with
      | _ n_7 ih_7 =>
      intro x2 x3 ls hI hl
      have hf : LB_X5_holeAt_7 (fun z => ∃ k, k < n_7 ∧ I_7 k z) s0 x2 x3 Q := hst_7 n_7 (x2, x3) hI
      have hG_7 : ∀ (x2 : Int32) (x3 : Int32) (ls : Array Slot), (∃ k, k < n_7 ∧ I_7 k (x2, x3)) → lv_has ls 4 [(0, .ref (q0 0)), (2, .int x2), (3, .int x3)] → W p l e (headSpec (wsA yX5_holeAt cX5_holeAt 4 (some .int)) ({ frames := 2, cells := 0, slots := 0, locals := 40 })).room s m (#[.ref (q0 0), .int p0] : Array Value) below meth c s.heap [] 0 0 (MQ below (vp_Si Q) (#[.ref (q0 0), .int p0] : Array Value) s 0 0 (fun _ => False)) (F0 m 7 ls []) := by
        rintro x2 x3 ls ⟨k, hk, hI⟩ hl
        exact ih_7 k hk x2 x3 ls hI hl
      unfold LB_X5_holeAt_7 at hf
      refine lv_iload_n hx hb dX5_holeAt_7 rfl (lv_at hl 2 rfl) ?_
      refine lv_iconst (v := (5 : Int32)) hx hb dX5_holeAt_8 (by decide) ?_
      refine lv_icmp_ge (tgt := 31) hx hb dX5_holeAt_9 (by decide) (fun c_1 => ?_) (fun c_1 => ?_)
      · have hf := hf.1 c_1
        refine lv_bipush (v := (-9 : Int32)) hx hb dX5_holeAt_31 (by decide) ?_
        exact W.iret (v := (-9 : Int32)) hx hb hr (fun t ht hW => ⟨(-9 : Int32), rfl, hf, ht⟩) (fun q h => absurd h List.not_mem_nil) dX5_holeAt_33
      · have hf := hf.2 c_1
        refine lv_aload_n hx hb dX5_holeAt_12 rfl (lv_at hl 0 rfl) ?_
        refine va_get (D := D) (ci := 3) (v := .ref (q0 1)) (C := RX5) (T := TX5) (N := 6) hx hb ht inX5 hown hK hP 0 rfl rfl 0 (by decide) (ht _ tw_91) (fun _ h9 => h9) rfl dX5_holeAt_13 ?_
        refine lv_iload_n hx hb dX5_holeAt_16 rfl (lv_at hl 2 rfl) ?_
        obtain ⟨hi_2, hf⟩ := hf
        refine va_iald hx hb hK hP 1 0 rfl rfl hi_2 dX5_holeAt_17 ?_
        refine lv_iload_n hx hb dX5_holeAt_18 rfl (lv_at hl 1 rfl) ?_
        refine lv_iand hx hb dX5_holeAt_19 ?_
        refine lv_if_eq (tgt := 25) hx hb dX5_holeAt_20 (by decide) (fun c_3 => ?_) (fun c_3 => ?_)
        · have hf := hf.1 c_3
          obtain ⟨x3_4, ex3_4⟩ : ∃ y : Int32, y = x3 + (1 : Int32) := ⟨_, rfl⟩
          have hf := hf x3_4 ex3_4
          refine lv_iinc (v := x3_4) (lv' := [(3, .int x3_4), (0, .ref (q0 0)), (2, .int x2)]) hx hb dX5_holeAt_25 hl (k := 2) rfl (by rw [ex3_4]; rfl) (by decide) rfl (fun ls hl => ?_)
          refine lv_goto (tgt := 7) hx hb dX5_holeAt_28 (by decide) ?_
          exact hG_7 x2 x3_4 ls hf (lv_sub hl [1, 2, 0] rfl)
        · have hf := hf.2 c_3
          refine lv_iload_n hx hb dX5_holeAt_23 rfl (lv_at hl 2 rfl) ?_
          exact W.iret (v := x3) hx hb hr (fun t ht hW => ⟨x3, rfl, hf, ht⟩) (fun q h => absurd h List.not_mem_nil) dX5_holeAt_24
    exact main_7 n0_7 x2 x3 ls hI0_7 hl
  refine lv_iload_n hx hb dX5_holeAt_0 rfl (lv_at hl 1 rfl) ?_
  have hPc : va_P D classes ([] : va_W) s.heap := hP.sub [] rfl
  refine vp_callSi (W.runS (As := [.int p0]) (rest := []) ⟨hx, hb, hml, hown, hts⟩ (c_X2_bitOf l D cI cZ cW  p0 _ hf) ⟨callB_of 1 hts (gA tw_248) rfl rfl rfl (ht _ tw_9) (ht _ tw_266) hd_X2_bitOf ⟨Nat.le_of_ble_eq_true rfl, Nat.le_of_ble_eq_true rfl⟩, ht _ tw_247⟩ ⟨PR_blind, fun U hU hW => PR_mk hPc hK hU hW⟩ rfl rfl hl.1 rfl (lv_room (Nat.le_of_ble_eq_true rfl)) dX5_holeAt_1 ⟨Nat.zero_le _, Nat.zero_le _⟩) (fun r_5 hf => ?_)
  refine lv_istore_n (lv' := [(2, .int r_5), (0, .ref (q0 0)), (1, .int p0)]) hx hb dX5_holeAt_4 rfl hl (by decide) rfl (fun ls hl => ?_)
  refine lv_iconst (v := (0 : Int32)) hx hb dX5_holeAt_5 (by decide) ?_
  refine lv_istore_n (lv' := [(3, .int (0 : Int32)), (2, .int r_5), (0, .ref (q0 0)), (1, .int p0)]) hx hb dX5_holeAt_6 rfl hl (by decide) rfl (fun ls hl => ?_)
  exact k_7 r_5 (0 : Int32) ls hf (lv_sub hl [2, 1, 0] rfl)
def B_X5_ownerAt_38 (s0 : CS) (s1 : CS) (x2 : Int32) (t0 : Int32) (Q : Int32 → Prop) : Prop := ((t0 = 0 → Q (-9 : Int32)) ∧ (¬ t0 = 0 → wp_X3_get (x2 / (5 : Int32)) 4 (s1.2.1 3) (fun r_2 => Q r_2)))
def wp_X5_ownerAt (p1 : Int32) (s0 : CS) (s1 : CS) (Q : Int32 → Prop) : Prop := wp_X5_holeAt p1 s0 (fun r_3 => ((r_3 = (-9 : Int32) → wp_X5_pasteCells s0 (fun r_5 => wp_X2_bitOf p1 (fun r_6 => (((r_5 &&& r_6) = 0 → B_X5_ownerAt_38 s0 s1 p1 (0 : Int32) Q) ∧ (¬ (r_5 &&& r_6) = 0 → B_X5_ownerAt_38 s0 s1 p1 (1 : Int32) Q))))) ∧ (¬ r_3 = (-9 : Int32) → wp_X3_get r_3 5 (s0.2.1 1) (fun r_8 => Q r_8))))
set_option maxHeartbeats 4000000 in
set_option maxRecDepth 100000 in
theorem c_X5_ownerAt (l : Launch) (D : va_G) (cI cZ cW : ClassId) (q0 : Nat → Nat) (q1 : Nat → Nat) (p1 : Int32) (s0 : CS) (s1 : CS) (Q : Int32 → Prop) (hf : wp_X5_ownerAt p1 s0 s1 Q) : Met l yX5_ownerAt (wsA yX5_ownerAt cX5_ownerAt 5 (some .int)) ({ frames := 3, cells := 0, slots := 0, locals := 63 }) (PR D cI cZ cW [.ref (q0 0), .ref (q1 0), .int p1] (wW cI cZ q0 s0 ++ wD cI cZ q1 s1)) (vp_Si Q) 0 0 (fun _ => False) := by
  refine Met.ofW (cc := cX5_ownerAt) (maxL := 5) (ret := (some .int)) (by decide) rfl ?_
  intro p e s m args below meth c s₁ B hml hv
  obtain ⟨rfl, hP, hK⟩ := hv
  have hx := B.exec
  have hb := B.bytes
  have hr := B.returns
  have hts := atoms_spec (ws := (wsA yX5_ownerAt cX5_ownerAt 5 (some .int))) B.pre
  have ht : ∀ w ∈ lw_g, w.before _ s = true := fun w h => hts w (List.mem_cons_of_mem _ h)
  have hown : s.vm.findClass RX5 = some m.cls := findClass_of_methodNamed B.named
  have hlocks := B.notSynchronized
  have hl := lv_entry ([.ref (q0 0), .ref (q1 0), .int p1]) (n := 5) (Nat.le_of_ble_eq_true rfl)
  rw [lg_entry_eq]
  generalize (lg_sl ([.ref (q0 0), .ref (q1 0), .int p1]) ++ List.replicate (5 - (lg_sl ([.ref (q0 0), .ref (q1 0), .int p1])).length) Slot.unset).toArray = ls at hl ⊢
  have hl : lv_has ls 5 [(0, .ref (q0 0)), (1, .ref (q1 0)), (2, .int p1)] := hl
  unfold wp_X5_ownerAt at hf
  have k_38 : ∀ (x2 : Int32) (t0 : Int32) (ls : Array Slot), B_X5_ownerAt_38 s0 s1 x2 t0 Q → lv_has ls 5 [(1, .ref (q1 0)), (2, .int x2)] → W p l e (headSpec (wsA yX5_ownerAt cX5_ownerAt 5 (some .int)) ({ frames := 3, cells := 0, slots := 0, locals := 63 })).room s m (#[.ref (q0 0), .ref (q1 0), .int p1] : Array Value) below meth c s.heap [] 0 0 (MQ below (vp_Si Q) (#[.ref (q0 0), .ref (q1 0), .int p1] : Array Value) s 0 0 (fun _ => False)) (F0 m 38 ls [.int t0]) := by
    intro x2 t0 ls hf hl
    unfold B_X5_ownerAt_38 at hf
    refine lv_istore (lv' := [(4, .int t0), (1, .ref (q1 0)), (2, .int x2)]) hx hb dX5_ownerAt_38 hl (by decide) rfl (fun ls hl => ?_)
    refine lv_iload hx hb dX5_ownerAt_40 (lv_at hl 0 rfl) ?_
    refine lv_if_eq (tgt := 58) hx hb dX5_ownerAt_42 (by decide) (fun c_1 => ?_) (fun c_1 => ?_)
    · have hf := hf.1 c_1
      refine lv_bipush (v := (-9 : Int32)) hx hb dX5_ownerAt_58 (by decide) ?_
      exact W.iret (v := (-9 : Int32)) hx hb hr (fun t ht hW => ⟨(-9 : Int32), rfl, hf, ht⟩) (fun q h => absurd h List.not_mem_nil) dX5_ownerAt_60
    · have hf := hf.2 c_1
      refine lv_aload_n hx hb dX5_ownerAt_45 rfl (lv_at hl 1 rfl) ?_
      refine va_get (D := D) (ci := 1) (v := .ref (q1 2)) (C := RX1) (T := TX1) (N := 14) hx hb ht inX1 hown hK hP 5 rfl rfl 3 (by decide) (ht _ tw_38) (fun _ h9 => h9) rfl dX5_ownerAt_46 ?_
      refine lv_iload_n hx hb dX5_ownerAt_49 rfl (lv_at hl 2 rfl) ?_
      refine lv_iconst (v := (5 : Int32)) hx hb dX5_ownerAt_50 (by decide) ?_
      refine lv_idiv hx hb dX5_ownerAt_51 (by decide) ?_
      have hPc : va_P D classes (wI cI (q1 2) 4 (s1.2.1 3)) s.heap := hP.sub [7] rfl
      refine vp_callSi (W.runS (As := [.ref (q1 2), .int (x2 / (5 : Int32))]) (rest := []) ⟨hx, hb, hml, hown, hts⟩ (c_X3_get l D cI cZ cW (q1 2) (x2 / (5 : Int32)) 4 (s1.2.1 3) _ hf) ⟨callB_of 2 hts (gA tw_235) rfl rfl rfl (ht _ tw_8) (ht _ tw_342) hd_X3_get ⟨Nat.le_of_ble_eq_true rfl, Nat.le_of_ble_eq_true rfl⟩, ht _ tw_234⟩ ⟨PR_blind, fun U hU hW => PR_mk hPc hK hU hW⟩ rfl rfl hl.1 rfl (lv_room (Nat.le_of_ble_eq_true rfl)) dX5_ownerAt_52 ⟨Nat.zero_le _, Nat.zero_le _⟩) (fun r_2 hf => ?_)
      refine lv_goto (tgt := 60) hx hb dX5_ownerAt_55 (by decide) ?_
      exact W.iret (v := r_2) hx hb hr (fun t ht hW => ⟨r_2, rfl, hf, ht⟩) (fun q h => absurd h List.not_mem_nil) dX5_ownerAt_60
  refine lv_aload_n hx hb dX5_ownerAt_0 rfl (lv_at hl 0 rfl) ?_
  refine lv_iload_n hx hb dX5_ownerAt_1 rfl (lv_at hl 2 rfl) ?_
  have hPc : va_P D classes (wW cI cZ q0 s0) s.heap := hP.sub [0, 1, 2, 3, 4] rfl
  refine vp_callSi (W.runV (As := [.int p1]) (rest := []) ⟨hx, hb, hml, hown, hts⟩ (c_X5_holeAt l D cI cZ cW q0 p1 s0 _ hf) ⟨callB_of 1 hts (gA tw_336) rfl rfl rfl (ht _ tw_4) (ht _ tw_341) hd_X5_holeAt ⟨Nat.le_of_ble_eq_true rfl, Nat.le_of_ble_eq_true rfl⟩, ht _ tw_334, ht _ tw_335⟩ ⟨PR_blind, va_recv hK hP (ci := 3) (q0 := 0) rfl rfl, fun U hU hW => PR_mk hPc hK hU hW⟩ rfl rfl hl.1 rfl (lv_room (Nat.le_of_ble_eq_true rfl)) dX5_ownerAt_2 ⟨Nat.zero_le _, Nat.zero_le _⟩) (fun r_3 hf => ?_)
  refine lv_istore_n (lv' := [(3, .int r_3), (0, .ref (q0 0)), (1, .ref (q1 0)), (2, .int p1)]) hx hb dX5_ownerAt_5 rfl hl (by decide) rfl (fun ls hl => ?_)
  refine lv_iload_n hx hb dX5_ownerAt_6 rfl (lv_at hl 0 rfl) ?_
  refine lv_bipush (v := (-9 : Int32)) hx hb dX5_ownerAt_7 (by decide) ?_
  refine lv_icmp_eq (tgt := 21) hx hb dX5_ownerAt_9 (by decide) (fun c_4 => ?_) (fun c_4 => ?_)
  · have hf := hf.1 c_4
    refine lv_aload_n hx hb dX5_ownerAt_21 rfl (lv_at hl 1 rfl) ?_
    have hPc : va_P D classes (wW cI cZ q0 s0) s.heap := hP.sub [0, 1, 2, 3, 4] rfl
    refine vp_callSi (W.runV (As := []) (rest := []) ⟨hx, hb, hml, hown, hts⟩ (c_X5_pasteCells l D cI cZ cW q0 s0 _ hf) ⟨callB_of 0 hts (gA tw_296) rfl rfl rfl (ht _ tw_4) (ht _ tw_293) hd_X5_pasteCells ⟨Nat.le_of_ble_eq_true rfl, Nat.le_of_ble_eq_true rfl⟩, ht _ tw_294, ht _ tw_295⟩ ⟨PR_blind, va_recv hK hP (ci := 3) (q0 := 0) rfl rfl, fun U hU hW => PR_mk hPc hK hU hW⟩ rfl rfl hl.1 rfl (lv_room (Nat.le_of_ble_eq_true rfl)) dX5_ownerAt_22 ⟨Nat.zero_le _, Nat.zero_le _⟩) (fun r_5 hf => ?_)
    refine lv_iload_n hx hb dX5_ownerAt_25 rfl (lv_at hl 3 rfl) ?_
    have hPc : va_P D classes ([] : va_W) s.heap := hP.sub [] rfl
    refine vp_callSi (W.runS (As := [.int p1]) (rest := [.int r_5]) ⟨hx, hb, hml, hown, hts⟩ (c_X2_bitOf l D cI cZ cW  p1 _ hf) ⟨callB_of 1 hts (gA tw_248) rfl rfl rfl (ht _ tw_9) (ht _ tw_266) hd_X2_bitOf ⟨Nat.le_of_ble_eq_true rfl, Nat.le_of_ble_eq_true rfl⟩, ht _ tw_247⟩ ⟨PR_blind, fun U hU hW => PR_mk hPc hK hU hW⟩ rfl rfl hl.1 rfl (lv_room (Nat.le_of_ble_eq_true rfl)) dX5_ownerAt_26 ⟨Nat.zero_le _, Nat.zero_le _⟩) (fun r_6 hf => ?_)
    refine lv_iand hx hb dX5_ownerAt_29 ?_
    refine lv_if_eq (tgt := 37) hx hb dX5_ownerAt_30 (by decide) (fun c_7 => ?_) (fun c_7 => ?_)
    · have hf := hf.1 c_7
      refine lv_iconst (v := (0 : Int32)) hx hb dX5_ownerAt_37 (by decide) ?_
      exact k_38 p1 (0 : Int32) ls hf (lv_sub hl [2, 3] rfl)
    · have hf := hf.2 c_7
      refine lv_iconst (v := (1 : Int32)) hx hb dX5_ownerAt_33 (by decide) ?_
      refine lv_goto (tgt := 38) hx hb dX5_ownerAt_34 (by decide) ?_
      exact k_38 p1 (1 : Int32) ls hf (lv_sub hl [2, 3] rfl)
  · have hf := hf.2 c_4
    refine lv_aload_n hx hb dX5_ownerAt_12 rfl (lv_at hl 1 rfl) ?_
    refine va_get (D := D) (ci := 3) (v := .ref (q0 2)) (C := RX5) (T := TX5) (N := 6) hx hb ht inX5 hown hK hP 0 rfl rfl 1 (by decide) (ht _ tw_92) (fun _ h9 => h9) rfl dX5_ownerAt_13 ?_
    refine lv_iload_n hx hb dX5_ownerAt_16 rfl (lv_at hl 0 rfl) ?_
    have hPc : va_P D classes (wI cI (q0 2) 5 (s0.2.1 1)) s.heap := hP.sub [2] rfl
    refine vp_callSi (W.runS (As := [.ref (q0 2), .int r_3]) (rest := []) ⟨hx, hb, hml, hown, hts⟩ (c_X3_get l D cI cZ cW (q0 2) r_3 5 (s0.2.1 1) _ hf) ⟨callB_of 2 hts (gA tw_235) rfl rfl rfl (ht _ tw_8) (ht _ tw_342) hd_X3_get ⟨Nat.le_of_ble_eq_true rfl, Nat.le_of_ble_eq_true rfl⟩, ht _ tw_234⟩ ⟨PR_blind, fun U hU hW => PR_mk hPc hK hU hW⟩ rfl rfl hl.1 rfl (lv_room (Nat.le_of_ble_eq_true rfl)) dX5_ownerAt_17 ⟨Nat.zero_le _, Nat.zero_le _⟩) (fun r_8 hf => ?_)
    exact W.iret (v := r_8) hx hb hr (fun t ht hW => ⟨r_8, rfl, hf, ht⟩) (fun q h => absurd h List.not_mem_nil) dX5_ownerAt_20
def wp_X5_pay (p0 : Int32) (p1 : Int32) (p2 : Int32) (s0 : CS) (Q : CS → Prop) : Prop := ((p0 = p1 → Q s0) ∧ (¬ p0 = p1 → wp_X3_add p0 (-p2) 4 (s0.2.1 3) (fun f_2 => ∀ s0_3 : CS, s0_3 = sF s0 3 f_2 → wp_X3_add p1 p2 4 (s0_3.2.1 3) (fun f_4 => ∀ s0_5 : CS, s0_5 = sF s0_3 3 f_4 → Q s0_5))))
set_option maxHeartbeats 4000000 in
set_option maxRecDepth 100000 in
theorem c_X5_pay (l : Launch) (D : va_G) (cI cZ cW : ClassId) (q0 : Nat → Nat) (sz : Nat) (p0 : Int32) (p1 : Int32) (p2 : Int32) (s0 : CS) (Q : CS → Prop) (hf : wp_X5_pay p0 p1 p2 s0 Q) : Met l yX5_pay (wsA yX5_pay cX5_pay 4 none) ({ frames := 1, cells := 0, slots := 0, locals := 22 }) (PW D cI cZ cW [.ref (q0 0), .int p0, .int p1, .int p2] (wW cI cZ q0 s0) sz) (va_Qv (fun (u : CS) => Q u) (fun u t => va_P D classes (wW cI cZ q0 u) t.heap) (va_A (wW cI cZ q0 s0) sz)) 0 0 (va_A (wW cI cZ q0 s0) sz) := by
  refine Met.ofW (cc := cX5_pay) (maxL := 4) (ret := none) (by decide) rfl ?_
  intro p e s m args below meth c s₁ B hml hv
  obtain ⟨rfl, hsz, hP, hK, hD0⟩ := hv
  have hx := B.exec
  have hb := B.bytes
  have hr := B.returns
  have hts := atoms_spec (ws := (wsA yX5_pay cX5_pay 4 none)) B.pre
  have ht : ∀ w ∈ lw_g, w.before _ s = true := fun w h => hts w (List.mem_cons_of_mem _ h)
  have hown : s.vm.findClass RX5 = some m.cls := findClass_of_methodNamed B.named
  have hlocks := B.notSynchronized
  subst hsz
  have hD := hD0.self (sz := s.heap.size)
  generalize hAe : va_A (wW cI cZ q0 s0) s.heap.size = A at hD ⊢
  have hA : ∀ q : Nat, s.heap.size ≤ q → A q := fun q h => by rw [← hAe]; exact Or.inr h
  have hS : va_S A s.heap s.heap [] := va_S.rf
  have hl := lv_entry ([.ref (q0 0), .int p0, .int p1, .int p2]) (n := 4) (Nat.le_of_ble_eq_true rfl)
  rw [lg_entry_eq]
  generalize (lg_sl ([.ref (q0 0), .int p0, .int p1, .int p2]) ++ List.replicate (4 - (lg_sl ([.ref (q0 0), .int p0, .int p1, .int p2])).length) Slot.unset).toArray = ls at hl ⊢
  have hl : lv_has ls 4 [(0, .ref (q0 0)), (1, .int p0), (2, .int p1), (3, .int p2)] := hl
  unfold wp_X5_pay at hf
  have start : ∀ (H : Heap) (locs : List Loc), va_P D classes (wW cI cZ q0 s0) H → va_D A (wW cI cZ q0 s0) → va_S A s.heap H locs → W p l e (headSpec (wsA yX5_pay cX5_pay 4 none) ({ frames := 1, cells := 0, slots := 0, locals := 22 })).room s m (#[.ref (q0 0), .int p0, .int p1, .int p2] : Array Value) below meth c H locs 0 0 (MQ below (va_Qv (fun (u : CS) => Q u) (fun u t => va_P D classes (wW cI cZ q0 u) t.heap) A) (#[.ref (q0 0), .int p0, .int p1, .int p2] : Array Value) s 0 0 A) (F0 m 0 ls []) := by
    intro H locs hP hD hS
    refine lv_iload_n hx hb dX5_pay_0 rfl (lv_at hl 1 rfl) ?_
    refine lv_iload_n hx hb dX5_pay_1 rfl (lv_at hl 2 rfl) ?_
    refine lv_icmp_eq (tgt := 24) hx hb dX5_pay_2 (by decide) (fun c_1 => ?_) (fun c_1 => ?_)
    · have hf := hf.1 c_1
      exact W.vret hx hb hr (fun t ht hW => ⟨⟨s0, rfl, hf, P_heap ht hP⟩, hS.F ht⟩) hS.2.2 dX5_pay_24
    · have hf := hf.2 c_1
      refine lv_aload_n hx hb dX5_pay_5 rfl (lv_at hl 0 rfl) ?_
      refine va_get (D := D) (ci := 3) (v := .ref (q0 4)) (C := RX5) (T := TX5) (N := 6) hx hb ht inX5 hown hK hP 0 rfl rfl 3 (by decide) (ht _ tw_96) (fun _ h9 => h9) rfl dX5_pay_6 ?_
      refine lv_iload_n hx hb dX5_pay_9 rfl (lv_at hl 1 rfl) ?_
      refine lv_iload_n hx hb dX5_pay_10 rfl (lv_at hl 3 rfl) ?_
      refine lv_ineg hx hb dX5_pay_11 ?_
      have hPc : va_P D classes (wI cI (q0 4) 4 (s0.2.1 3)) H := hP.sub [4] rfl
      have hDc : va_D A (wI cI (q0 4) 4 (s0.2.1 3)) := hD.sub [4] (by decide) rfl
      have hFc := va_free (wc := (wI cI (q0 4) 4 (s0.2.1 3))) hD hS hA [4] rfl
      refine va_callv (va_runS (As := [.ref (q0 4), .int p0, .int (-p2)]) (rest := []) ⟨hx, hb, hml, hown, hts⟩ (c_X3_add l D cI cZ cW (q0 4) H.size p0 (-p2) 4 (s0.2.1 3) _ hf) ⟨callB_of 3 hts (gA tw_402) rfl rfl rfl (ht _ tw_8) (ht _ tw_400) hd_X3_add ⟨Nat.le_of_ble_eq_true rfl, Nat.le_of_ble_eq_true rfl⟩, ht _ tw_401⟩ ⟨PW_blind, fun U hU hW => PW_mk hPc hDc hK hU hW⟩ rfl rfl hl.1 rfl (lv_room (Nat.le_of_ble_eq_true rfl)) dX5_pay_12 ⟨Nat.zero_le _, Nat.zero_le _⟩) hS (fun q _ h => hFc q h) hFc (fun u t H1 locs ht1 hvm hf hB hz1 hk1 hS => ?_)
      obtain ⟨f_2, rfl⟩ : ∃ z, z = u := ⟨_, rfl⟩
      rw [ht1] at hB
      obtain ⟨hP, hD⟩ := cj [4] (wI cI (q0 4) 4 (s0.2.1 3)) (wI cI (q0 4) 4 f_2) hP hD rfl rfl hk1 hB
      generalize H1 = H at hP hS ⊢
      obtain ⟨s0_3, es0_3⟩ : ∃ y : CS, y = sF s0 3 f_2 := ⟨_, rfl⟩
      have hf := hf s0_3 es0_3
      have hP : va_P D classes (wW cI cZ q0 s0_3) H := by rw [es0_3]; exact hP
      have hD : va_D A (wW cI cZ q0 s0_3) := by rw [es0_3]; exact hD
      refine lv_aload_n hx hb dX5_pay_15 rfl (lv_at hl 0 rfl) ?_
      refine va_get (D := D) (ci := 3) (v := .ref (q0 4)) (C := RX5) (T := TX5) (N := 6) hx hb ht inX5 hown hK hP 0 rfl rfl 3 (by decide) (ht _ tw_96) (fun _ h9 => h9) rfl dX5_pay_16 ?_
      refine lv_iload_n hx hb dX5_pay_19 rfl (lv_at hl 2 rfl) ?_
      refine lv_iload_n hx hb dX5_pay_20 rfl (lv_at hl 3 rfl) ?_
      have hPc : va_P D classes (wI cI (q0 4) 4 (s0_3.2.1 3)) H := hP.sub [4] rfl
      have hDc : va_D A (wI cI (q0 4) 4 (s0_3.2.1 3)) := hD.sub [4] (by decide) rfl
      have hFc := va_free (wc := (wI cI (q0 4) 4 (s0_3.2.1 3))) hD hS hA [4] rfl
      refine va_callv (va_runS (As := [.ref (q0 4), .int p1, .int p2]) (rest := []) ⟨hx, hb, hml, hown, hts⟩ (c_X3_add l D cI cZ cW (q0 4) H.size p1 p2 4 (s0_3.2.1 3) _ hf) ⟨callB_of 3 hts (gA tw_402) rfl rfl rfl (ht _ tw_8) (ht _ tw_400) hd_X3_add ⟨Nat.le_of_ble_eq_true rfl, Nat.le_of_ble_eq_true rfl⟩, ht _ tw_401⟩ ⟨PW_blind, fun U hU hW => PW_mk hPc hDc hK hU hW⟩ rfl rfl hl.1 rfl (lv_room (Nat.le_of_ble_eq_true rfl)) dX5_pay_21 ⟨Nat.zero_le _, Nat.zero_le _⟩) hS (fun q _ h => hFc q h) hFc (fun u t H1 locs ht1 hvm hf hB hz1 hk1 hS => ?_)
      obtain ⟨f_4, rfl⟩ : ∃ z, z = u := ⟨_, rfl⟩
      rw [ht1] at hB
      obtain ⟨hP, hD⟩ := cj [4] (wI cI (q0 4) 4 (s0_3.2.1 3)) (wI cI (q0 4) 4 f_4) hP hD rfl rfl hk1 hB
      generalize H1 = H at hP hS ⊢
      obtain ⟨s0_5, es0_5⟩ : ∃ y : CS, y = sF s0_3 3 f_4 := ⟨_, rfl⟩
      have hf := hf s0_5 es0_5
      have hP : va_P D classes (wW cI cZ q0 s0_5) H := by rw [es0_5]; exact hP
      have hD : va_D A (wW cI cZ q0 s0_5) := by rw [es0_5]; exact hD
      exact W.vret hx hb hr (fun t ht hW => ⟨⟨s0_5, rfl, hf, P_heap ht hP⟩, hS.F ht⟩) hS.2.2 dX5_pay_24
  exact start s.heap [] hP hD hS
def B_X5_takeLeast_41  (x2 : Int32) (x3 : Int32) (t0 : Int32) (s0 : CS) (s1 : CS) (Q : CS → CS → Prop) : Prop := wp_X5_softPaste s0 s1 (fun r_1 => wp_X2_leastOf (t0 &&& r_1) (fun r_2 => ((¬ r_2 = 0 → wp_J6_bitCount_0f7a4 (r_2 - (1 : Int32)) (fun r_4 => wp_X3_get x2 5 (s0.2.1 1) (fun r_5 => wp_X3_get (r_4 / (5 : Int32)) 4 (s1.2.1 3) (fun r_6 => wp_X5_pay r_5 r_6 (1 : Int32) s0 (fun s0_7 => wp_X3_put x2 (x3 ||| r_2) 5 (s0_7.2.1 0) (fun f_8 => ∀ s0_9 : CS, s0_9 = sF s0_7 0 f_8 → Q s0_9 s1)))))) ∧ (r_2 = 0 → Q s0 s1))))
def B_X5_takeLeast_23  (x2 : Int32) (x3 : Int32) (t0 : Int32) (s0 : CS) (s1 : CS) (Q : CS → CS → Prop) : Prop := ((t0 = 0 → wp_X2_beside x3 (fun r_11 => B_X5_takeLeast_41  x2 x3 r_11 s0 s1 Q)) ∧ (¬ t0 = 0 → wp_X2_columnsOf x3 (fun r_12 => B_X5_takeLeast_41  x2 x3 r_12 s0 s1 Q)))
def wp_X5_takeLeast (p1 : Int32) (s0 : CS) (s1 : CS) (Q : CS → CS → Prop) : Prop := wp_X5_cellsOfHole p1 s0 (fun r_13 => wp_X3_get p1 5 (s1.2.1 4) (fun r_14 => ((¬ r_14 = (3 : Int32) → B_X5_takeLeast_23  p1 r_13 (0 : Int32) s0 s1 Q) ∧ (r_14 = (3 : Int32) → B_X5_takeLeast_23  p1 r_13 (1 : Int32) s0 s1 Q))))
set_option maxHeartbeats 4000000 in
set_option maxRecDepth 100000 in
theorem c_X5_takeLeast (l : Launch) (D : va_G) (cI cZ cW : ClassId) (q0 : Nat → Nat) (q1 : Nat → Nat) (sz : Nat) (p1 : Int32) (s0 : CS) (s1 : CS) (Q : CS → CS → Prop) (hf : wp_X5_takeLeast p1 s0 s1 Q) : Met l yX5_takeLeast (wsA yX5_takeLeast cX5_takeLeast 8 none) ({ frames := 2, cells := 0, slots := 0, locals := 45 }) (PW D cI cZ cW [.ref (q0 0), .ref (q1 0), .int p1] (wW cI cZ q0 s0 ++ wD cI cZ q1 s1) sz) (va_Qv (fun (u : CS × CS) => Q u.1 u.2) (fun u t => va_P D classes (wW cI cZ q0 u.1 ++ wD cI cZ q1 u.2) t.heap) (va_A (wW cI cZ q0 s0 ++ wD cI cZ q1 s1) sz)) 0 0 (va_A (wW cI cZ q0 s0 ++ wD cI cZ q1 s1) sz) := by
  refine Met.ofW (cc := cX5_takeLeast) (maxL := 8) (ret := none) (by decide) rfl ?_
  intro p e s m args below meth c s₁ B hml hv
  obtain ⟨rfl, hsz, hP, hK, hD0⟩ := hv
  have hx := B.exec
  have hb := B.bytes
  have hr := B.returns
  have hts := atoms_spec (ws := (wsA yX5_takeLeast cX5_takeLeast 8 none)) B.pre
  have ht : ∀ w ∈ lw_g, w.before _ s = true := fun w h => hts w (List.mem_cons_of_mem _ h)
  have hown : s.vm.findClass RX5 = some m.cls := findClass_of_methodNamed B.named
  have hlocks := B.notSynchronized
  subst hsz
  have hD := hD0.self (sz := s.heap.size)
  generalize hAe : va_A (wW cI cZ q0 s0 ++ wD cI cZ q1 s1) s.heap.size = A at hD ⊢
  have hA : ∀ q : Nat, s.heap.size ≤ q → A q := fun q h => by rw [← hAe]; exact Or.inr h
  have hS : va_S A s.heap s.heap [] := va_S.rf
  have hl := lv_entry ([.ref (q0 0), .ref (q1 0), .int p1]) (n := 8) (Nat.le_of_ble_eq_true rfl)
  rw [lg_entry_eq]
  generalize (lg_sl ([.ref (q0 0), .ref (q1 0), .int p1]) ++ List.replicate (8 - (lg_sl ([.ref (q0 0), .ref (q1 0), .int p1])).length) Slot.unset).toArray = ls at hl ⊢
  have hl : lv_has ls 8 [(0, .ref (q0 0)), (1, .ref (q1 0)), (2, .int p1)] := hl
  unfold wp_X5_takeLeast at hf
  have k_41 : ∀ (x2 : Int32) (x3 : Int32) (t0 : Int32) (s0 : CS) (s1 : CS) (H : Heap) (locs : List Loc) (ls : Array Slot), B_X5_takeLeast_41  x2 x3 t0 s0 s1 Q → va_P D classes (wW cI cZ q0 s0 ++ wD cI cZ q1 s1) H → va_D A (wW cI cZ q0 s0 ++ wD cI cZ q1 s1) → va_S A s.heap H locs → lv_has ls 8 [(0, .ref (q0 0)), (1, .ref (q1 0)), (2, .int x2), (3, .int x3)] → W p l e (headSpec (wsA yX5_takeLeast cX5_takeLeast 8 none) ({ frames := 2, cells := 0, slots := 0, locals := 45 })).room s m (#[.ref (q0 0), .ref (q1 0), .int p1] : Array Value) below meth c H locs 0 0 (MQ below (va_Qv (fun (u : CS × CS) => Q u.1 u.2) (fun u t => va_P D classes (wW cI cZ q0 u.1 ++ wD cI cZ q1 u.2) t.heap) A) (#[.ref (q0 0), .ref (q1 0), .int p1] : Array Value) s 0 0 A) (F0 m 41 ls [.int t0]) := by
    intro x2 x3 t0 s0 s1 H locs ls hf hP hD hS hl
    unfold B_X5_takeLeast_41 at hf
    refine lv_istore (lv' := [(5, .int t0), (0, .ref (q0 0)), (1, .ref (q1 0)), (2, .int x2), (3, .int x3)]) hx hb dX5_takeLeast_41 hl (by decide) rfl (fun ls hl => ?_)
    refine lv_iload hx hb dX5_takeLeast_43 (lv_at hl 0 rfl) ?_
    refine lv_aload_n hx hb dX5_takeLeast_45 rfl (lv_at hl 1 rfl) ?_
    refine lv_aload_n hx hb dX5_takeLeast_46 rfl (lv_at hl 2 rfl) ?_
    have hPc : va_P D classes (wW cI cZ q0 s0 ++ wD cI cZ q1 s1) H := hP
    refine vp_callSi (W.runV (As := [.ref (q1 0)]) (rest := [.int t0]) ⟨hx, hb, hml, hown, hts⟩ (c_X5_softPaste l D cI cZ cW q0 q1 s0 s1 _ hf) ⟨callB_of 1 hts (gA tw_392) rfl rfl rfl (ht _ tw_4) (ht _ tw_389) hd_X5_softPaste ⟨Nat.le_of_ble_eq_true rfl, Nat.le_of_ble_eq_true rfl⟩, ht _ tw_390, ht _ tw_391⟩ ⟨PR_blind, va_recv hK hP (ci := 3) (q0 := 0) rfl rfl, fun U hU hW => PR_mk hPc hK hU hW⟩ rfl rfl hl.1 rfl (lv_room (Nat.le_of_ble_eq_true rfl)) dX5_takeLeast_47 ⟨Nat.zero_le _, Nat.zero_le _⟩) (fun r_1 hf => ?_)
    refine lv_iand hx hb dX5_takeLeast_50 ?_
    have hPc : va_P D classes ([] : va_W) H := hP.sub [] rfl
    refine vp_callSi (W.runS (As := [.int (t0 &&& r_1)]) (rest := []) ⟨hx, hb, hml, hown, hts⟩ (c_X2_leastOf l D cI cZ cW  (t0 &&& r_1) _ hf) ⟨callB_of 1 hts (gA tw_395) rfl rfl rfl (ht _ tw_9) (ht _ tw_393) hd_X2_leastOf ⟨Nat.le_of_ble_eq_true rfl, Nat.le_of_ble_eq_true rfl⟩, ht _ tw_394⟩ ⟨PR_blind, fun U hU hW => PR_mk hPc hK hU hW⟩ rfl rfl hl.1 rfl (lv_room (Nat.le_of_ble_eq_true rfl)) dX5_takeLeast_51 ⟨Nat.zero_le _, Nat.zero_le _⟩) (fun r_2 hf => ?_)
    refine lv_istore (lv' := [(6, .int r_2), (5, .int t0), (0, .ref (q0 0)), (1, .ref (q1 0)), (2, .int x2), (3, .int x3)]) hx hb dX5_takeLeast_54 hl (by decide) rfl (fun ls hl => ?_)
    refine lv_iload hx hb dX5_takeLeast_56 (lv_at hl 0 rfl) ?_
    refine lv_if_ne (tgt := 62) hx hb dX5_takeLeast_58 (by decide) (fun c_3 => ?_) (fun c_3 => ?_)
    · have hf := hf.1 c_3
      refine lv_iload hx hb dX5_takeLeast_62 (lv_at hl 0 rfl) ?_
      refine lv_iconst (v := (1 : Int32)) hx hb dX5_takeLeast_64 (by decide) ?_
      refine lv_isub hx hb dX5_takeLeast_65 ?_
      have hPc : va_P D classes ([] : va_W) H := hP.sub [] rfl
      refine vp_callSi (W.runS (As := [.int (r_2 - (1 : Int32))]) (rest := []) ⟨hx, hb, hml, hown, hts⟩ (c_J6_bitCount_0f7a4 l D cI cZ cW  (r_2 - (1 : Int32)) _ hf) ⟨callB_of 1 hts (gA tw_305) rfl rfl rfl (ht _ tw_10) (ht _ tw_323) hd_J6_bitCount_0f7a4 ⟨Nat.le_of_ble_eq_true rfl, Nat.le_of_ble_eq_true rfl⟩, ht _ tw_304⟩ ⟨PR_blind, fun U hU hW => PR_mk hPc hK hU hW⟩ rfl rfl hl.1 rfl (lv_room (Nat.le_of_ble_eq_true rfl)) dX5_takeLeast_66 ⟨Nat.zero_le _, Nat.zero_le _⟩) (fun r_4 hf => ?_)
      refine lv_istore (lv' := [(7, .int r_4), (6, .int r_2), (5, .int t0), (0, .ref (q0 0)), (1, .ref (q1 0)), (2, .int x2), (3, .int x3)]) hx hb dX5_takeLeast_69 hl (by decide) rfl (fun ls hl => ?_)
      refine lv_aload_n hx hb dX5_takeLeast_71 rfl (lv_at hl 3 rfl) ?_
      refine lv_aload_n hx hb dX5_takeLeast_72 rfl (lv_at hl 3 rfl) ?_
      refine va_get (D := D) (ci := 3) (v := .ref (q0 2)) (C := RX5) (T := TX5) (N := 6) hx hb ht inX5 hown hK hP 0 rfl rfl 1 (by decide) (ht _ tw_92) (fun _ h9 => h9) rfl dX5_takeLeast_73 ?_
      refine lv_iload_n hx hb dX5_takeLeast_76 rfl (lv_at hl 5 rfl) ?_
      have hPc : va_P D classes (wI cI (q0 2) 5 (s0.2.1 1)) H := hP.sub [2] rfl
      refine vp_callSi (W.runS (As := [.ref (q0 2), .int x2]) (rest := [.ref (q0 0)]) ⟨hx, hb, hml, hown, hts⟩ (c_X3_get l D cI cZ cW (q0 2) x2 5 (s0.2.1 1) _ hf) ⟨callB_of 2 hts (gA tw_235) rfl rfl rfl (ht _ tw_8) (ht _ tw_342) hd_X3_get ⟨Nat.le_of_ble_eq_true rfl, Nat.le_of_ble_eq_true rfl⟩, ht _ tw_234⟩ ⟨PR_blind, fun U hU hW => PR_mk hPc hK hU hW⟩ rfl rfl hl.1 rfl (lv_room (Nat.le_of_ble_eq_true rfl)) dX5_takeLeast_77 ⟨Nat.zero_le _, Nat.zero_le _⟩) (fun r_5 hf => ?_)
      refine lv_aload_n hx hb dX5_takeLeast_80 rfl (lv_at hl 4 rfl) ?_
      refine va_get (D := D) (ci := 1) (v := .ref (q1 2)) (C := RX1) (T := TX1) (N := 14) hx hb ht inX1 hown hK hP 5 rfl rfl 3 (by decide) (ht _ tw_38) (fun _ h9 => h9) rfl dX5_takeLeast_81 ?_
      refine lv_iload hx hb dX5_takeLeast_84 (lv_at hl 0 rfl) ?_
      refine lv_iconst (v := (5 : Int32)) hx hb dX5_takeLeast_86 (by decide) ?_
      refine lv_idiv hx hb dX5_takeLeast_87 (by decide) ?_
      have hPc : va_P D classes (wI cI (q1 2) 4 (s1.2.1 3)) H := hP.sub [7] rfl
      refine vp_callSi (W.runS (As := [.ref (q1 2), .int (r_4 / (5 : Int32))]) (rest := [.int r_5, .ref (q0 0)]) ⟨hx, hb, hml, hown, hts⟩ (c_X3_get l D cI cZ cW (q1 2) (r_4 / (5 : Int32)) 4 (s1.2.1 3) _ hf) ⟨callB_of 2 hts (gA tw_235) rfl rfl rfl (ht _ tw_8) (ht _ tw_342) hd_X3_get ⟨Nat.le_of_ble_eq_true rfl, Nat.le_of_ble_eq_true rfl⟩, ht _ tw_234⟩ ⟨PR_blind, fun U hU hW => PR_mk hPc hK hU hW⟩ rfl rfl hl.1 rfl (lv_room (Nat.le_of_ble_eq_true rfl)) dX5_takeLeast_88 ⟨Nat.zero_le _, Nat.zero_le _⟩) (fun r_6 hf => ?_)
      refine lv_iconst (v := (1 : Int32)) hx hb dX5_takeLeast_91 (by decide) ?_
      have hPc : va_P D classes (wW cI cZ q0 s0) H := hP.sub [0, 1, 2, 3, 4] rfl
      have hDc : va_D A (wW cI cZ q0 s0) := hD.sub [0, 1, 2, 3, 4] (by decide) rfl
      have hFc := va_free (wc := (wW cI cZ q0 s0)) hD hS hA [0, 1, 2, 3, 4] rfl
      refine va_callv (va_runV (As := [.int r_5, .int r_6, .int (1 : Int32)]) (rest := []) ⟨hx, hb, hml, hown, hts⟩ (c_X5_pay l D cI cZ cW q0 H.size r_5 r_6 (1 : Int32) s0 _ hf) ⟨callB_of 3 hts (gA tw_399) rfl rfl rfl (ht _ tw_4) (ht _ tw_396) hd_X5_pay ⟨Nat.le_of_ble_eq_true rfl, Nat.le_of_ble_eq_true rfl⟩, ht _ tw_398, ht _ twp_10⟩ ⟨PW_blind, va_recv hK hP (ci := 3) (q0 := 0) rfl rfl, fun U hU hW => PW_mk hPc hDc hK hU hW⟩ rfl rfl hl.1 rfl (lv_room (Nat.le_of_ble_eq_true rfl)) dX5_takeLeast_92 ⟨Nat.zero_le _, Nat.zero_le _⟩) hS (fun q _ h => hFc q h) hFc (fun u t H1 locs ht1 hvm hf hB hz1 hk1 hS => ?_)
      obtain ⟨s0_7, rfl⟩ : ∃ z, z = u := ⟨_, rfl⟩
      rw [ht1] at hB
      obtain ⟨hP, hD⟩ := cj [0, 1, 2, 3, 4] (wW cI cZ q0 s0) (wW cI cZ q0 s0_7) hP hD rfl rfl hk1 hB
      generalize H1 = H at hP hS ⊢
      have hP : va_P D classes (wW cI cZ q0 s0_7 ++ wD cI cZ q1 s1) H := hP
      have hD : va_D A (wW cI cZ q0 s0_7 ++ wD cI cZ q1 s1) := hD
      refine lv_aload_n hx hb dX5_takeLeast_95 rfl (lv_at hl 3 rfl) ?_
      refine va_get (D := D) (ci := 3) (v := .ref (q0 1)) (C := RX5) (T := TX5) (N := 6) hx hb ht inX5 hown hK hP 0 rfl rfl 0 (by decide) (ht _ tw_91) (fun _ h9 => h9) rfl dX5_takeLeast_96 ?_
      refine lv_iload_n hx hb dX5_takeLeast_99 rfl (lv_at hl 5 rfl) ?_
      refine lv_iload_n hx hb dX5_takeLeast_100 rfl (lv_at hl 6 rfl) ?_
      refine lv_iload hx hb dX5_takeLeast_101 (lv_at hl 1 rfl) ?_
      refine lv_ior hx hb dX5_takeLeast_103 ?_
      have hPc : va_P D classes (wI cI (q0 1) 5 (s0_7.2.1 0)) H := hP.sub [1] rfl
      have hDc : va_D A (wI cI (q0 1) 5 (s0_7.2.1 0)) := hD.sub [1] (by decide) rfl
      have hFc := va_free (wc := (wI cI (q0 1) 5 (s0_7.2.1 0))) hD hS hA [1] rfl
      refine va_callv (va_runS (As := [.ref (q0 1), .int x2, .int (x3 ||| r_2)]) (rest := []) ⟨hx, hb, hml, hown, hts⟩ (c_X3_put l D cI cZ cW (q0 1) H.size x2 (x3 ||| r_2) 5 (s0_7.2.1 0) _ hf) ⟨callB_of 3 hts (gA tw_224) rfl rfl rfl (ht _ tw_8) (ht _ tw_403) hd_X3_put ⟨Nat.le_of_ble_eq_true rfl, Nat.le_of_ble_eq_true rfl⟩, ht _ tw_223⟩ ⟨PW_blind, fun U hU hW => PW_mk hPc hDc hK hU hW⟩ rfl rfl hl.1 rfl (lv_room (Nat.le_of_ble_eq_true rfl)) dX5_takeLeast_104 ⟨Nat.zero_le _, Nat.zero_le _⟩) hS (fun q _ h => hFc q h) hFc (fun u t H1 locs ht1 hvm hf hB hz1 hk1 hS => ?_)
      obtain ⟨f_8, rfl⟩ : ∃ z, z = u := ⟨_, rfl⟩
      rw [ht1] at hB
      obtain ⟨hP, hD⟩ := cj [1] (wI cI (q0 1) 5 (s0_7.2.1 0)) (wI cI (q0 1) 5 f_8) hP hD rfl rfl hk1 hB
      generalize H1 = H at hP hS ⊢
      obtain ⟨s0_9, es0_9⟩ : ∃ y : CS, y = sF s0_7 0 f_8 := ⟨_, rfl⟩
      have hf := hf s0_9 es0_9
      have hP : va_P D classes (wW cI cZ q0 s0_9 ++ wD cI cZ q1 s1) H := by rw [es0_9]; exact hP
      have hD : va_D A (wW cI cZ q0 s0_9 ++ wD cI cZ q1 s1) := by rw [es0_9]; exact hD
      exact W.vret hx hb hr (fun t ht hW => ⟨⟨(s0_9, s1), rfl, hf, P_heap ht hP⟩, hS.F ht⟩) hS.2.2 dX5_takeLeast_107
    · have hf := hf.2 c_3
      exact W.vret hx hb hr (fun t ht hW => ⟨⟨(s0, s1), rfl, hf, P_heap ht hP⟩, hS.F ht⟩) hS.2.2 dX5_takeLeast_61
  have k_23 : ∀ (x2 : Int32) (x3 : Int32) (t0 : Int32) (s0 : CS) (s1 : CS) (H : Heap) (locs : List Loc) (ls : Array Slot), B_X5_takeLeast_23  x2 x3 t0 s0 s1 Q → va_P D classes (wW cI cZ q0 s0 ++ wD cI cZ q1 s1) H → va_D A (wW cI cZ q0 s0 ++ wD cI cZ q1 s1) → va_S A s.heap H locs → lv_has ls 8 [(0, .ref (q0 0)), (1, .ref (q1 0)), (2, .int x2), (3, .int x3)] → W p l e (headSpec (wsA yX5_takeLeast cX5_takeLeast 8 none) ({ frames := 2, cells := 0, slots := 0, locals := 45 })).room s m (#[.ref (q0 0), .ref (q1 0), .int p1] : Array Value) below meth c H locs 0 0 (MQ below (va_Qv (fun (u : CS × CS) => Q u.1 u.2) (fun u t => va_P D classes (wW cI cZ q0 u.1 ++ wD cI cZ q1 u.2) t.heap) A) (#[.ref (q0 0), .ref (q1 0), .int p1] : Array Value) s 0 0 A) (F0 m 23 ls [.int t0]) := by
    intro x2 x3 t0 s0 s1 H locs ls hf hP hD hS hl
    unfold B_X5_takeLeast_23 at hf
    refine lv_istore (lv' := [(4, .int t0), (0, .ref (q0 0)), (1, .ref (q1 0)), (2, .int x2), (3, .int x3)]) hx hb dX5_takeLeast_23 hl (by decide) rfl (fun ls hl => ?_)
    refine lv_iload hx hb dX5_takeLeast_25 (lv_at hl 0 rfl) ?_
    refine lv_if_eq (tgt := 37) hx hb dX5_takeLeast_27 (by decide) (fun c_10 => ?_) (fun c_10 => ?_)
    · have hf := hf.1 c_10
      refine lv_iload_n hx hb dX5_takeLeast_37 rfl (lv_at hl 4 rfl) ?_
      have hPc : va_P D classes ([] : va_W) H := hP.sub [] rfl
      refine vp_callSi (W.runS (As := [.int x3]) (rest := []) ⟨hx, hb, hml, hown, hts⟩ (c_X2_beside l D cI cZ cW  x3 _ hf) ⟨callB_of 1 hts (gA tw_385) rfl rfl rfl (ht _ tw_9) (ht _ tw_383) hd_X2_beside ⟨Nat.le_of_ble_eq_true rfl, Nat.le_of_ble_eq_true rfl⟩, ht _ tw_384⟩ ⟨PR_blind, fun U hU hW => PR_mk hPc hK hU hW⟩ rfl rfl hl.1 rfl (lv_room (Nat.le_of_ble_eq_true rfl)) dX5_takeLeast_38 ⟨Nat.zero_le _, Nat.zero_le _⟩) (fun r_11 hf => ?_)
      exact k_41 x2 x3 r_11 s0 s1 H locs ls hf hP hD hS (lv_sub hl [1, 2, 3, 4] rfl)
    · have hf := hf.2 c_10
      refine lv_iload_n hx hb dX5_takeLeast_30 rfl (lv_at hl 4 rfl) ?_
      have hPc : va_P D classes ([] : va_W) H := hP.sub [] rfl
      refine vp_callSi (W.runS (As := [.int x3]) (rest := []) ⟨hx, hb, hml, hown, hts⟩ (c_X2_columnsOf l D cI cZ cW  x3 _ hf) ⟨callB_of 1 hts (gA tw_381) rfl rfl rfl (ht _ tw_9) (ht _ tw_379) hd_X2_columnsOf ⟨Nat.le_of_ble_eq_true rfl, Nat.le_of_ble_eq_true rfl⟩, ht _ tw_380⟩ ⟨PR_blind, fun U hU hW => PR_mk hPc hK hU hW⟩ rfl rfl hl.1 rfl (lv_room (Nat.le_of_ble_eq_true rfl)) dX5_takeLeast_31 ⟨Nat.zero_le _, Nat.zero_le _⟩) (fun r_12 hf => ?_)
      refine lv_goto (tgt := 41) hx hb dX5_takeLeast_34 (by decide) ?_
      exact k_41 x2 x3 r_12 s0 s1 H locs ls hf hP hD hS (lv_sub hl [1, 2, 3, 4] rfl)
  have start : ∀ (H : Heap) (locs : List Loc), va_P D classes (wW cI cZ q0 s0 ++ wD cI cZ q1 s1) H → va_D A (wW cI cZ q0 s0 ++ wD cI cZ q1 s1) → va_S A s.heap H locs → W p l e (headSpec (wsA yX5_takeLeast cX5_takeLeast 8 none) ({ frames := 2, cells := 0, slots := 0, locals := 45 })).room s m (#[.ref (q0 0), .ref (q1 0), .int p1] : Array Value) below meth c H locs 0 0 (MQ below (va_Qv (fun (u : CS × CS) => Q u.1 u.2) (fun u t => va_P D classes (wW cI cZ q0 u.1 ++ wD cI cZ q1 u.2) t.heap) A) (#[.ref (q0 0), .ref (q1 0), .int p1] : Array Value) s 0 0 A) (F0 m 0 ls []) := by
    intro H locs hP hD hS
    refine lv_aload_n hx hb dX5_takeLeast_0 rfl (lv_at hl 0 rfl) ?_
    refine lv_iload_n hx hb dX5_takeLeast_1 rfl (lv_at hl 2 rfl) ?_
    have hPc : va_P D classes (wW cI cZ q0 s0) H := hP.sub [0, 1, 2, 3, 4] rfl
    refine vp_callSi (W.runV (As := [.int p1]) (rest := []) ⟨hx, hb, hml, hown, hts⟩ (c_X5_cellsOfHole l D cI cZ cW q0 p1 s0 _ hf) ⟨callB_of 1 hts (gA tw_317) rfl rfl rfl (ht _ tw_4) (ht _ tw_322) hd_X5_cellsOfHole ⟨Nat.le_of_ble_eq_true rfl, Nat.le_of_ble_eq_true rfl⟩, ht _ tw_315, ht _ tw_316⟩ ⟨PR_blind, va_recv hK hP (ci := 3) (q0 := 0) rfl rfl, fun U hU hW => PR_mk hPc hK hU hW⟩ rfl rfl hl.1 rfl (lv_room (Nat.le_of_ble_eq_true rfl)) dX5_takeLeast_2 ⟨Nat.zero_le _, Nat.zero_le _⟩) (fun r_13 hf => ?_)
    refine lv_istore_n (lv' := [(3, .int r_13), (0, .ref (q0 0)), (1, .ref (q1 0)), (2, .int p1)]) hx hb dX5_takeLeast_5 rfl hl (by decide) rfl (fun ls hl => ?_)
    refine lv_aload_n hx hb dX5_takeLeast_6 rfl (lv_at hl 2 rfl) ?_
    refine va_get (D := D) (ci := 1) (v := .ref (q1 3)) (C := RX1) (T := TX1) (N := 14) hx hb ht inX1 hown hK hP 5 rfl rfl 4 (by decide) (ht _ tw_41) (fun _ h9 => h9) rfl dX5_takeLeast_7 ?_
    refine lv_iload_n hx hb dX5_takeLeast_10 rfl (lv_at hl 3 rfl) ?_
    have hPc : va_P D classes (wI cI (q1 3) 5 (s1.2.1 4)) H := hP.sub [8] rfl
    refine vp_callSi (W.runS (As := [.ref (q1 3), .int p1]) (rest := []) ⟨hx, hb, hml, hown, hts⟩ (c_X3_get l D cI cZ cW (q1 3) p1 5 (s1.2.1 4) _ hf) ⟨callB_of 2 hts (gA tw_235) rfl rfl rfl (ht _ tw_8) (ht _ tw_342) hd_X3_get ⟨Nat.le_of_ble_eq_true rfl, Nat.le_of_ble_eq_true rfl⟩, ht _ tw_234⟩ ⟨PR_blind, fun U hU hW => PR_mk hPc hK hU hW⟩ rfl rfl hl.1 rfl (lv_room (Nat.le_of_ble_eq_true rfl)) dX5_takeLeast_11 ⟨Nat.zero_le _, Nat.zero_le _⟩) (fun r_14 hf => ?_)
    refine lv_iconst (v := (3 : Int32)) hx hb dX5_takeLeast_14 (by decide) ?_
    refine lv_icmp_ne (tgt := 22) hx hb dX5_takeLeast_15 (by decide) (fun c_15 => ?_) (fun c_15 => ?_)
    · have hf := hf.1 c_15
      refine lv_iconst (v := (0 : Int32)) hx hb dX5_takeLeast_22 (by decide) ?_
      exact k_23 p1 r_13 (0 : Int32) s0 s1 H locs ls hf hP hD hS (lv_sub hl [1, 2, 3, 0] rfl)
    · have hf := hf.2 c_15
      refine lv_iconst (v := (1 : Int32)) hx hb dX5_takeLeast_18 (by decide) ?_
      refine lv_goto (tgt := 23) hx hb dX5_takeLeast_19 (by decide) ?_
      exact k_23 p1 r_13 (1 : Int32) s0 s1 H locs ls hf hP hD hS (lv_sub hl [1, 2, 3, 0] rfl)
  exact start s.heap [] hP hD hS
def wp_X5_endOwning (p0 : Int32) (s0 : CS) (Q : CS → Prop) : Prop := wp_X3_put p0 (-9 : Int32) 5 (s0.2.1 1) (fun f_1 => ∀ s0_2 : CS, s0_2 = sF s0 1 f_1 → wp_X3_put p0 (-9 : Int32) 5 (s0_2.2.1 2) (fun f_3 => ∀ s0_4 : CS, s0_4 = sF s0_2 2 f_3 → Q s0_4))
set_option maxHeartbeats 4000000 in
set_option maxRecDepth 100000 in
theorem c_X5_endOwning (l : Launch) (D : va_G) (cI cZ cW : ClassId) (q0 : Nat → Nat) (sz : Nat) (p0 : Int32) (s0 : CS) (Q : CS → Prop) (hf : wp_X5_endOwning p0 s0 Q) : Met l yX5_endOwning (wsA yX5_endOwning cX5_endOwning 2 none) ({ frames := 1, cells := 0, slots := 0, locals := 22 }) (PW D cI cZ cW [.ref (q0 0), .int p0] (wW cI cZ q0 s0) sz) (va_Qv (fun (u : CS) => Q u) (fun u t => va_P D classes (wW cI cZ q0 u) t.heap) (va_A (wW cI cZ q0 s0) sz)) 0 0 (va_A (wW cI cZ q0 s0) sz) := by
  refine Met.ofW (cc := cX5_endOwning) (maxL := 2) (ret := none) (by decide) rfl ?_
  intro p e s m args below meth c s₁ B hml hv
  obtain ⟨rfl, hsz, hP, hK, hD0⟩ := hv
  have hx := B.exec
  have hb := B.bytes
  have hr := B.returns
  have hts := atoms_spec (ws := (wsA yX5_endOwning cX5_endOwning 2 none)) B.pre
  have ht : ∀ w ∈ lw_g, w.before _ s = true := fun w h => hts w (List.mem_cons_of_mem _ h)
  have hown : s.vm.findClass RX5 = some m.cls := findClass_of_methodNamed B.named
  have hlocks := B.notSynchronized
  subst hsz
  have hD := hD0.self (sz := s.heap.size)
  generalize hAe : va_A (wW cI cZ q0 s0) s.heap.size = A at hD ⊢
  have hA : ∀ q : Nat, s.heap.size ≤ q → A q := fun q h => by rw [← hAe]; exact Or.inr h
  have hS : va_S A s.heap s.heap [] := va_S.rf
  have hl := lv_entry ([.ref (q0 0), .int p0]) (n := 2) (Nat.le_of_ble_eq_true rfl)
  rw [lg_entry_eq]
  generalize (lg_sl ([.ref (q0 0), .int p0]) ++ List.replicate (2 - (lg_sl ([.ref (q0 0), .int p0])).length) Slot.unset).toArray = ls at hl ⊢
  have hl : lv_has ls 2 [(0, .ref (q0 0)), (1, .int p0)] := hl
  unfold wp_X5_endOwning at hf
  have start : ∀ (H : Heap) (locs : List Loc), va_P D classes (wW cI cZ q0 s0) H → va_D A (wW cI cZ q0 s0) → va_S A s.heap H locs → W p l e (headSpec (wsA yX5_endOwning cX5_endOwning 2 none) ({ frames := 1, cells := 0, slots := 0, locals := 22 })).room s m (#[.ref (q0 0), .int p0] : Array Value) below meth c H locs 0 0 (MQ below (va_Qv (fun (u : CS) => Q u) (fun u t => va_P D classes (wW cI cZ q0 u) t.heap) A) (#[.ref (q0 0), .int p0] : Array Value) s 0 0 A) (F0 m 0 ls []) := by
    intro H locs hP hD hS
    refine lv_aload_n hx hb dX5_endOwning_0 rfl (lv_at hl 0 rfl) ?_
    refine va_get (D := D) (ci := 3) (v := .ref (q0 2)) (C := RX5) (T := TX5) (N := 6) hx hb ht inX5 hown hK hP 0 rfl rfl 1 (by decide) (ht _ tw_92) (fun _ h9 => h9) rfl dX5_endOwning_1 ?_
    refine lv_iload_n hx hb dX5_endOwning_4 rfl (lv_at hl 1 rfl) ?_
    refine lv_bipush (v := (-9 : Int32)) hx hb dX5_endOwning_5 (by decide) ?_
    have hPc : va_P D classes (wI cI (q0 2) 5 (s0.2.1 1)) H := hP.sub [2] rfl
    have hDc : va_D A (wI cI (q0 2) 5 (s0.2.1 1)) := hD.sub [2] (by decide) rfl
    have hFc := va_free (wc := (wI cI (q0 2) 5 (s0.2.1 1))) hD hS hA [2] rfl
    refine va_callv (va_runS (As := [.ref (q0 2), .int p0, .int (-9 : Int32)]) (rest := []) ⟨hx, hb, hml, hown, hts⟩ (c_X3_put l D cI cZ cW (q0 2) H.size p0 (-9 : Int32) 5 (s0.2.1 1) _ hf) ⟨callB_of 3 hts (gA tw_224) rfl rfl rfl (ht _ tw_8) (ht _ tw_403) hd_X3_put ⟨Nat.le_of_ble_eq_true rfl, Nat.le_of_ble_eq_true rfl⟩, ht _ tw_223⟩ ⟨PW_blind, fun U hU hW => PW_mk hPc hDc hK hU hW⟩ rfl rfl hl.1 rfl (lv_room (Nat.le_of_ble_eq_true rfl)) dX5_endOwning_7 ⟨Nat.zero_le _, Nat.zero_le _⟩) hS (fun q _ h => hFc q h) hFc (fun u t H1 locs ht1 hvm hf hB hz1 hk1 hS => ?_)
    obtain ⟨f_1, rfl⟩ : ∃ z, z = u := ⟨_, rfl⟩
    rw [ht1] at hB
    obtain ⟨hP, hD⟩ := cj [2] (wI cI (q0 2) 5 (s0.2.1 1)) (wI cI (q0 2) 5 f_1) hP hD rfl rfl hk1 hB
    generalize H1 = H at hP hS ⊢
    obtain ⟨s0_2, es0_2⟩ : ∃ y : CS, y = sF s0 1 f_1 := ⟨_, rfl⟩
    have hf := hf s0_2 es0_2
    have hP : va_P D classes (wW cI cZ q0 s0_2) H := by rw [es0_2]; exact hP
    have hD : va_D A (wW cI cZ q0 s0_2) := by rw [es0_2]; exact hD
    refine lv_aload_n hx hb dX5_endOwning_10 rfl (lv_at hl 0 rfl) ?_
    refine va_get (D := D) (ci := 3) (v := .ref (q0 3)) (C := RX5) (T := TX5) (N := 6) hx hb ht inX5 hown hK hP 0 rfl rfl 2 (by decide) (ht _ tw_94) (fun _ h9 => h9) rfl dX5_endOwning_11 ?_
    refine lv_iload_n hx hb dX5_endOwning_14 rfl (lv_at hl 1 rfl) ?_
    refine lv_bipush (v := (-9 : Int32)) hx hb dX5_endOwning_15 (by decide) ?_
    have hPc : va_P D classes (wI cI (q0 3) 5 (s0_2.2.1 2)) H := hP.sub [3] rfl
    have hDc : va_D A (wI cI (q0 3) 5 (s0_2.2.1 2)) := hD.sub [3] (by decide) rfl
    have hFc := va_free (wc := (wI cI (q0 3) 5 (s0_2.2.1 2))) hD hS hA [3] rfl
    refine va_callv (va_runS (As := [.ref (q0 3), .int p0, .int (-9 : Int32)]) (rest := []) ⟨hx, hb, hml, hown, hts⟩ (c_X3_put l D cI cZ cW (q0 3) H.size p0 (-9 : Int32) 5 (s0_2.2.1 2) _ hf) ⟨callB_of 3 hts (gA tw_224) rfl rfl rfl (ht _ tw_8) (ht _ tw_403) hd_X3_put ⟨Nat.le_of_ble_eq_true rfl, Nat.le_of_ble_eq_true rfl⟩, ht _ tw_223⟩ ⟨PW_blind, fun U hU hW => PW_mk hPc hDc hK hU hW⟩ rfl rfl hl.1 rfl (lv_room (Nat.le_of_ble_eq_true rfl)) dX5_endOwning_17 ⟨Nat.zero_le _, Nat.zero_le _⟩) hS (fun q _ h => hFc q h) hFc (fun u t H1 locs ht1 hvm hf hB hz1 hk1 hS => ?_)
    obtain ⟨f_3, rfl⟩ : ∃ z, z = u := ⟨_, rfl⟩
    rw [ht1] at hB
    obtain ⟨hP, hD⟩ := cj [3] (wI cI (q0 3) 5 (s0_2.2.1 2)) (wI cI (q0 3) 5 f_3) hP hD rfl rfl hk1 hB
    generalize H1 = H at hP hS ⊢
    obtain ⟨s0_4, es0_4⟩ : ∃ y : CS, y = sF s0_2 2 f_3 := ⟨_, rfl⟩
    have hf := hf s0_4 es0_4
    have hP : va_P D classes (wW cI cZ q0 s0_4) H := by rw [es0_4]; exact hP
    have hD : va_D A (wW cI cZ q0 s0_4) := by rw [es0_4]; exact hD
    exact W.vret hx hb hr (fun t ht hW => ⟨⟨s0_4, rfl, hf, P_heap ht hP⟩, hS.F ht⟩) hS.2.2 dX5_endOwning_20
  exact start s.heap [] hP hD hS
def B_X5_joinPair_39  (x1 : Int32) (x2 : Int32) (x4 : Int32) (t0 : Int32) (s0 : CS) (Q : CS → Prop) : Prop := wp_X5_cellsOfHole x1 s0 (fun r_1 => wp_X5_cellsOfHole x2 s0 (fun r_2 => wp_X3_put x4 (r_1 ||| r_2) 5 (s0.2.1 0) (fun f_3 => ∀ s0_4 : CS, s0_4 = sF s0 0 f_3 → wp_X3_put t0 (0 : Int32) 5 (s0_4.2.1 0) (fun f_5 => ∀ s0_6 : CS, s0_6 = sF s0_4 0 f_5 → wp_X5_endOwning t0 s0_6 (fun s0_7 => Q s0_7)))))
def B_X5_joinPair_28  (x1 : Int32) (x2 : Int32) (x3 : Int32) (t0 : Int32) (s0 : CS) (Q : CS → Prop) : Prop := ((x3 = 0 → B_X5_joinPair_39  x1 x2 t0 x2 s0 Q) ∧ (¬ x3 = 0 → B_X5_joinPair_39  x1 x2 t0 x1 s0 Q))
def B_X5_joinPair_18  (x1 : Int32) (x2 : Int32) (t0 : Int32) (s0 : CS) (Q : CS → Prop) : Prop := ((t0 = 0 → B_X5_joinPair_28  x1 x2 t0 x1 s0 Q) ∧ (¬ t0 = 0 → B_X5_joinPair_28  x1 x2 t0 x2 s0 Q))
def wp_X5_joinPair (p0 : Int32) (p1 : Int32) (s0 : CS) (Q : CS → Prop) : Prop := wp_X5_sizeOfHole p1 s0 (fun r_10 => wp_X5_sizeOfHole p0 s0 (fun r_11 => ((r_10 ≤ r_11 → B_X5_joinPair_18  p0 p1 (0 : Int32) s0 Q) ∧ (¬ r_10 ≤ r_11 → B_X5_joinPair_18  p0 p1 (1 : Int32) s0 Q))))
set_option maxHeartbeats 4000000 in
set_option maxRecDepth 100000 in
theorem c_X5_joinPair (l : Launch) (D : va_G) (cI cZ cW : ClassId) (q0 : Nat → Nat) (sz : Nat) (p0 : Int32) (p1 : Int32) (s0 : CS) (Q : CS → Prop) (hf : wp_X5_joinPair p0 p1 s0 Q) : Met l yX5_joinPair (wsA yX5_joinPair cX5_joinPair 6 none) ({ frames := 2, cells := 0, slots := 0, locals := 43 }) (PW D cI cZ cW [.ref (q0 0), .int p0, .int p1] (wW cI cZ q0 s0) sz) (va_Qv (fun (u : CS) => Q u) (fun u t => va_P D classes (wW cI cZ q0 u) t.heap) (va_A (wW cI cZ q0 s0) sz)) 0 0 (va_A (wW cI cZ q0 s0) sz) := by
  refine Met.ofW (cc := cX5_joinPair) (maxL := 6) (ret := none) (by decide) rfl ?_
  intro p e s m args below meth c s₁ B hml hv
  obtain ⟨rfl, hsz, hP, hK, hD0⟩ := hv
  have hx := B.exec
  have hb := B.bytes
  have hr := B.returns
  have hts := atoms_spec (ws := (wsA yX5_joinPair cX5_joinPair 6 none)) B.pre
  have ht : ∀ w ∈ lw_g, w.before _ s = true := fun w h => hts w (List.mem_cons_of_mem _ h)
  have hown : s.vm.findClass RX5 = some m.cls := findClass_of_methodNamed B.named
  have hlocks := B.notSynchronized
  subst hsz
  have hD := hD0.self (sz := s.heap.size)
  generalize hAe : va_A (wW cI cZ q0 s0) s.heap.size = A at hD ⊢
  have hA : ∀ q : Nat, s.heap.size ≤ q → A q := fun q h => by rw [← hAe]; exact Or.inr h
  have hS : va_S A s.heap s.heap [] := va_S.rf
  have hl := lv_entry ([.ref (q0 0), .int p0, .int p1]) (n := 6) (Nat.le_of_ble_eq_true rfl)
  rw [lg_entry_eq]
  generalize (lg_sl ([.ref (q0 0), .int p0, .int p1]) ++ List.replicate (6 - (lg_sl ([.ref (q0 0), .int p0, .int p1])).length) Slot.unset).toArray = ls at hl ⊢
  have hl : lv_has ls 6 [(0, .ref (q0 0)), (1, .int p0), (2, .int p1)] := hl
  unfold wp_X5_joinPair at hf
  have k_39 : ∀ (x1 : Int32) (x2 : Int32) (x4 : Int32) (t0 : Int32) (s0 : CS) (H : Heap) (locs : List Loc) (ls : Array Slot), B_X5_joinPair_39  x1 x2 x4 t0 s0 Q → va_P D classes (wW cI cZ q0 s0) H → va_D A (wW cI cZ q0 s0) → va_S A s.heap H locs → lv_has ls 6 [(0, .ref (q0 0)), (1, .int x1), (2, .int x2), (4, .int x4)] → W p l e (headSpec (wsA yX5_joinPair cX5_joinPair 6 none) ({ frames := 2, cells := 0, slots := 0, locals := 43 })).room s m (#[.ref (q0 0), .int p0, .int p1] : Array Value) below meth c H locs 0 0 (MQ below (va_Qv (fun (u : CS) => Q u) (fun u t => va_P D classes (wW cI cZ q0 u) t.heap) A) (#[.ref (q0 0), .int p0, .int p1] : Array Value) s 0 0 A) (F0 m 39 ls [.int t0]) := by
    intro x1 x2 x4 t0 s0 H locs ls hf hP hD hS hl
    unfold B_X5_joinPair_39 at hf
    refine lv_istore (lv' := [(5, .int t0), (0, .ref (q0 0)), (1, .int x1), (2, .int x2), (4, .int x4)]) hx hb dX5_joinPair_39 hl (by decide) rfl (fun ls hl => ?_)
    refine lv_aload_n hx hb dX5_joinPair_41 rfl (lv_at hl 1 rfl) ?_
    refine va_get (D := D) (ci := 3) (v := .ref (q0 1)) (C := RX5) (T := TX5) (N := 6) hx hb ht inX5 hown hK hP 0 rfl rfl 0 (by decide) (ht _ tw_91) (fun _ h9 => h9) rfl dX5_joinPair_42 ?_
    refine lv_iload hx hb dX5_joinPair_45 (lv_at hl 4 rfl) ?_
    refine lv_aload_n hx hb dX5_joinPair_47 rfl (lv_at hl 1 rfl) ?_
    refine lv_iload_n hx hb dX5_joinPair_48 rfl (lv_at hl 2 rfl) ?_
    have hPc : va_P D classes (wW cI cZ q0 s0) H := hP
    refine vp_callSi (W.runV (As := [.int x1]) (rest := [.int x4, .ref (q0 1)]) ⟨hx, hb, hml, hown, hts⟩ (c_X5_cellsOfHole l D cI cZ cW q0 x1 s0 _ hf) ⟨callB_of 1 hts (gA tw_317) rfl rfl rfl (ht _ tw_4) (ht _ tw_322) hd_X5_cellsOfHole ⟨Nat.le_of_ble_eq_true rfl, Nat.le_of_ble_eq_true rfl⟩, ht _ tw_315, ht _ tw_316⟩ ⟨PR_blind, va_recv hK hP (ci := 3) (q0 := 0) rfl rfl, fun U hU hW => PR_mk hPc hK hU hW⟩ rfl rfl hl.1 rfl (lv_room (Nat.le_of_ble_eq_true rfl)) dX5_joinPair_49 ⟨Nat.zero_le _, Nat.zero_le _⟩) (fun r_1 hf => ?_)
    refine lv_aload_n hx hb dX5_joinPair_52 rfl (lv_at hl 1 rfl) ?_
    refine lv_iload_n hx hb dX5_joinPair_53 rfl (lv_at hl 3 rfl) ?_
    have hPc : va_P D classes (wW cI cZ q0 s0) H := hP
    refine vp_callSi (W.runV (As := [.int x2]) (rest := [.int r_1, .int x4, .ref (q0 1)]) ⟨hx, hb, hml, hown, hts⟩ (c_X5_cellsOfHole l D cI cZ cW q0 x2 s0 _ hf) ⟨callB_of 1 hts (gA tw_317) rfl rfl rfl (ht _ tw_4) (ht _ tw_322) hd_X5_cellsOfHole ⟨Nat.le_of_ble_eq_true rfl, Nat.le_of_ble_eq_true rfl⟩, ht _ tw_315, ht _ tw_316⟩ ⟨PR_blind, va_recv hK hP (ci := 3) (q0 := 0) rfl rfl, fun U hU hW => PR_mk hPc hK hU hW⟩ rfl rfl hl.1 rfl (lv_room (Nat.le_of_ble_eq_true rfl)) dX5_joinPair_54 ⟨Nat.zero_le _, Nat.zero_le _⟩) (fun r_2 hf => ?_)
    refine lv_ior hx hb dX5_joinPair_57 ?_
    have hPc : va_P D classes (wI cI (q0 1) 5 (s0.2.1 0)) H := hP.sub [1] rfl
    have hDc : va_D A (wI cI (q0 1) 5 (s0.2.1 0)) := hD.sub [1] (by decide) rfl
    have hFc := va_free (wc := (wI cI (q0 1) 5 (s0.2.1 0))) hD hS hA [1] rfl
    refine va_callv (va_runS (As := [.ref (q0 1), .int x4, .int (r_1 ||| r_2)]) (rest := []) ⟨hx, hb, hml, hown, hts⟩ (c_X3_put l D cI cZ cW (q0 1) H.size x4 (r_1 ||| r_2) 5 (s0.2.1 0) _ hf) ⟨callB_of 3 hts (gA tw_224) rfl rfl rfl (ht _ tw_8) (ht _ tw_403) hd_X3_put ⟨Nat.le_of_ble_eq_true rfl, Nat.le_of_ble_eq_true rfl⟩, ht _ tw_223⟩ ⟨PW_blind, fun U hU hW => PW_mk hPc hDc hK hU hW⟩ rfl rfl hl.1 rfl (lv_room (Nat.le_of_ble_eq_true rfl)) dX5_joinPair_58 ⟨Nat.zero_le _, Nat.zero_le _⟩) hS (fun q _ h => hFc q h) hFc (fun u t H1 locs ht1 hvm hf hB hz1 hk1 hS => ?_)
    obtain ⟨f_3, rfl⟩ : ∃ z, z = u := ⟨_, rfl⟩
    rw [ht1] at hB
    obtain ⟨hP, hD⟩ := cj [1] (wI cI (q0 1) 5 (s0.2.1 0)) (wI cI (q0 1) 5 f_3) hP hD rfl rfl hk1 hB
    generalize H1 = H at hP hS ⊢
    obtain ⟨s0_4, es0_4⟩ : ∃ y : CS, y = sF s0 0 f_3 := ⟨_, rfl⟩
    have hf := hf s0_4 es0_4
    have hP : va_P D classes (wW cI cZ q0 s0_4) H := by rw [es0_4]; exact hP
    have hD : va_D A (wW cI cZ q0 s0_4) := by rw [es0_4]; exact hD
    refine lv_aload_n hx hb dX5_joinPair_61 rfl (lv_at hl 1 rfl) ?_
    refine va_get (D := D) (ci := 3) (v := .ref (q0 1)) (C := RX5) (T := TX5) (N := 6) hx hb ht inX5 hown hK hP 0 rfl rfl 0 (by decide) (ht _ tw_91) (fun _ h9 => h9) rfl dX5_joinPair_62 ?_
    refine lv_iload hx hb dX5_joinPair_65 (lv_at hl 0 rfl) ?_
    refine lv_iconst (v := (0 : Int32)) hx hb dX5_joinPair_67 (by decide) ?_
    have hPc : va_P D classes (wI cI (q0 1) 5 (s0_4.2.1 0)) H := hP.sub [1] rfl
    have hDc : va_D A (wI cI (q0 1) 5 (s0_4.2.1 0)) := hD.sub [1] (by decide) rfl
    have hFc := va_free (wc := (wI cI (q0 1) 5 (s0_4.2.1 0))) hD hS hA [1] rfl
    refine va_callv (va_runS (As := [.ref (q0 1), .int t0, .int (0 : Int32)]) (rest := []) ⟨hx, hb, hml, hown, hts⟩ (c_X3_put l D cI cZ cW (q0 1) H.size t0 (0 : Int32) 5 (s0_4.2.1 0) _ hf) ⟨callB_of 3 hts (gA tw_224) rfl rfl rfl (ht _ tw_8) (ht _ tw_403) hd_X3_put ⟨Nat.le_of_ble_eq_true rfl, Nat.le_of_ble_eq_true rfl⟩, ht _ tw_223⟩ ⟨PW_blind, fun U hU hW => PW_mk hPc hDc hK hU hW⟩ rfl rfl hl.1 rfl (lv_room (Nat.le_of_ble_eq_true rfl)) dX5_joinPair_68 ⟨Nat.zero_le _, Nat.zero_le _⟩) hS (fun q _ h => hFc q h) hFc (fun u t H1 locs ht1 hvm hf hB hz1 hk1 hS => ?_)
    obtain ⟨f_5, rfl⟩ : ∃ z, z = u := ⟨_, rfl⟩
    rw [ht1] at hB
    obtain ⟨hP, hD⟩ := cj [1] (wI cI (q0 1) 5 (s0_4.2.1 0)) (wI cI (q0 1) 5 f_5) hP hD rfl rfl hk1 hB
    generalize H1 = H at hP hS ⊢
    obtain ⟨s0_6, es0_6⟩ : ∃ y : CS, y = sF s0_4 0 f_5 := ⟨_, rfl⟩
    have hf := hf s0_6 es0_6
    have hP : va_P D classes (wW cI cZ q0 s0_6) H := by rw [es0_6]; exact hP
    have hD : va_D A (wW cI cZ q0 s0_6) := by rw [es0_6]; exact hD
    refine lv_aload_n hx hb dX5_joinPair_71 rfl (lv_at hl 1 rfl) ?_
    refine lv_iload hx hb dX5_joinPair_72 (lv_at hl 0 rfl) ?_
    have hPc : va_P D classes (wW cI cZ q0 s0_6) H := hP
    have hDc : va_D A (wW cI cZ q0 s0_6) := hD
    have hFc := va_free (wc := (wW cI cZ q0 s0_6)) hD hS hA [0, 1, 2, 3, 4] rfl
    refine va_callv (va_runV (As := [.int t0]) (rest := []) ⟨hx, hb, hml, hown, hts⟩ (c_X5_endOwning l D cI cZ cW q0 H.size t0 s0_6 _ hf) ⟨callB_of 1 hts (gA tw_416) rfl rfl rfl (ht _ tw_4) (ht _ tw_413) hd_X5_endOwning ⟨Nat.le_of_ble_eq_true rfl, Nat.le_of_ble_eq_true rfl⟩, ht _ tw_415, ht _ twp_13⟩ ⟨PW_blind, va_recv hK hP (ci := 3) (q0 := 0) rfl rfl, fun U hU hW => PW_mk hPc hDc hK hU hW⟩ rfl rfl hl.1 rfl (lv_room (Nat.le_of_ble_eq_true rfl)) dX5_joinPair_74 ⟨Nat.zero_le _, Nat.zero_le _⟩) hS (fun q _ h => hFc q h) hFc (fun u t H1 locs ht1 hvm hf hB hz1 hk1 hS => ?_)
    obtain ⟨s0_7, rfl⟩ : ∃ z, z = u := ⟨_, rfl⟩
    rw [ht1] at hB
    obtain ⟨hP, hD⟩ := cj [0, 1, 2, 3, 4] (wW cI cZ q0 s0_6) (wW cI cZ q0 s0_7) hP hD rfl rfl hk1 hB
    generalize H1 = H at hP hS ⊢
    have hP : va_P D classes (wW cI cZ q0 s0_7) H := hP
    have hD : va_D A (wW cI cZ q0 s0_7) := hD
    exact W.vret hx hb hr (fun t ht hW => ⟨⟨s0_7, rfl, hf, P_heap ht hP⟩, hS.F ht⟩) hS.2.2 dX5_joinPair_77
  have k_28 : ∀ (x1 : Int32) (x2 : Int32) (x3 : Int32) (t0 : Int32) (s0 : CS) (H : Heap) (locs : List Loc) (ls : Array Slot), B_X5_joinPair_28  x1 x2 x3 t0 s0 Q → va_P D classes (wW cI cZ q0 s0) H → va_D A (wW cI cZ q0 s0) → va_S A s.heap H locs → lv_has ls 6 [(0, .ref (q0 0)), (1, .int x1), (2, .int x2), (3, .int x3)] → W p l e (headSpec (wsA yX5_joinPair cX5_joinPair 6 none) ({ frames := 2, cells := 0, slots := 0, locals := 43 })).room s m (#[.ref (q0 0), .int p0, .int p1] : Array Value) below meth c H locs 0 0 (MQ below (va_Qv (fun (u : CS) => Q u) (fun u t => va_P D classes (wW cI cZ q0 u) t.heap) A) (#[.ref (q0 0), .int p0, .int p1] : Array Value) s 0 0 A) (F0 m 28 ls [.int t0]) := by
    intro x1 x2 x3 t0 s0 H locs ls hf hP hD hS hl
    unfold B_X5_joinPair_28 at hf
    refine lv_istore (lv' := [(4, .int t0), (0, .ref (q0 0)), (1, .int x1), (2, .int x2), (3, .int x3)]) hx hb dX5_joinPair_28 hl (by decide) rfl (fun ls hl => ?_)
    refine lv_iload_n hx hb dX5_joinPair_30 rfl (lv_at hl 4 rfl) ?_
    refine lv_if_eq (tgt := 38) hx hb dX5_joinPair_31 (by decide) (fun c_8 => ?_) (fun c_8 => ?_)
    · have hf := hf.1 c_8
      refine lv_iload_n hx hb dX5_joinPair_38 rfl (lv_at hl 3 rfl) ?_
      exact k_39 x1 x2 t0 x2 s0 H locs ls hf hP hD hS (lv_sub hl [1, 2, 3, 0] rfl)
    · have hf := hf.2 c_8
      refine lv_iload_n hx hb dX5_joinPair_34 rfl (lv_at hl 2 rfl) ?_
      refine lv_goto (tgt := 39) hx hb dX5_joinPair_35 (by decide) ?_
      exact k_39 x1 x2 t0 x1 s0 H locs ls hf hP hD hS (lv_sub hl [1, 2, 3, 0] rfl)
  have k_18 : ∀ (x1 : Int32) (x2 : Int32) (t0 : Int32) (s0 : CS) (H : Heap) (locs : List Loc) (ls : Array Slot), B_X5_joinPair_18  x1 x2 t0 s0 Q → va_P D classes (wW cI cZ q0 s0) H → va_D A (wW cI cZ q0 s0) → va_S A s.heap H locs → lv_has ls 6 [(0, .ref (q0 0)), (1, .int x1), (2, .int x2)] → W p l e (headSpec (wsA yX5_joinPair cX5_joinPair 6 none) ({ frames := 2, cells := 0, slots := 0, locals := 43 })).room s m (#[.ref (q0 0), .int p0, .int p1] : Array Value) below meth c H locs 0 0 (MQ below (va_Qv (fun (u : CS) => Q u) (fun u t => va_P D classes (wW cI cZ q0 u) t.heap) A) (#[.ref (q0 0), .int p0, .int p1] : Array Value) s 0 0 A) (F0 m 18 ls [.int t0]) := by
    intro x1 x2 t0 s0 H locs ls hf hP hD hS hl
    unfold B_X5_joinPair_18 at hf
    refine lv_istore_n (lv' := [(3, .int t0), (0, .ref (q0 0)), (1, .int x1), (2, .int x2)]) hx hb dX5_joinPair_18 rfl hl (by decide) rfl (fun ls hl => ?_)
    refine lv_iload_n hx hb dX5_joinPair_19 rfl (lv_at hl 0 rfl) ?_
    refine lv_if_eq (tgt := 27) hx hb dX5_joinPair_20 (by decide) (fun c_9 => ?_) (fun c_9 => ?_)
    · have hf := hf.1 c_9
      refine lv_iload_n hx hb dX5_joinPair_27 rfl (lv_at hl 2 rfl) ?_
      exact k_28 x1 x2 t0 x1 s0 H locs ls hf hP hD hS (lv_sub hl [1, 2, 3, 0] rfl)
    · have hf := hf.2 c_9
      refine lv_iload_n hx hb dX5_joinPair_23 rfl (lv_at hl 3 rfl) ?_
      refine lv_goto (tgt := 28) hx hb dX5_joinPair_24 (by decide) ?_
      exact k_28 x1 x2 t0 x2 s0 H locs ls hf hP hD hS (lv_sub hl [1, 2, 3, 0] rfl)
  have start : ∀ (H : Heap) (locs : List Loc), va_P D classes (wW cI cZ q0 s0) H → va_D A (wW cI cZ q0 s0) → va_S A s.heap H locs → W p l e (headSpec (wsA yX5_joinPair cX5_joinPair 6 none) ({ frames := 2, cells := 0, slots := 0, locals := 43 })).room s m (#[.ref (q0 0), .int p0, .int p1] : Array Value) below meth c H locs 0 0 (MQ below (va_Qv (fun (u : CS) => Q u) (fun u t => va_P D classes (wW cI cZ q0 u) t.heap) A) (#[.ref (q0 0), .int p0, .int p1] : Array Value) s 0 0 A) (F0 m 0 ls []) := by
    intro H locs hP hD hS
    refine lv_aload_n hx hb dX5_joinPair_0 rfl (lv_at hl 0 rfl) ?_
    refine lv_iload_n hx hb dX5_joinPair_1 rfl (lv_at hl 2 rfl) ?_
    have hPc : va_P D classes (wW cI cZ q0 s0) H := hP
    refine vp_callSi (W.runV (As := [.int p1]) (rest := []) ⟨hx, hb, hml, hown, hts⟩ (c_X5_sizeOfHole l D cI cZ cW q0 p1 s0 _ hf) ⟨callB_of 1 hts (gA tw_321) rfl rfl rfl (ht _ tw_4) (ht _ tw_412) hd_X5_sizeOfHole ⟨Nat.le_of_ble_eq_true rfl, Nat.le_of_ble_eq_true rfl⟩, ht _ tw_319, ht _ tw_320⟩ ⟨PR_blind, va_recv hK hP (ci := 3) (q0 := 0) rfl rfl, fun U hU hW => PR_mk hPc hK hU hW⟩ rfl rfl hl.1 rfl (lv_room (Nat.le_of_ble_eq_true rfl)) dX5_joinPair_2 ⟨Nat.zero_le _, Nat.zero_le _⟩) (fun r_10 hf => ?_)
    refine lv_aload_n hx hb dX5_joinPair_5 rfl (lv_at hl 0 rfl) ?_
    refine lv_iload_n hx hb dX5_joinPair_6 rfl (lv_at hl 1 rfl) ?_
    have hPc : va_P D classes (wW cI cZ q0 s0) H := hP
    refine vp_callSi (W.runV (As := [.int p0]) (rest := [.int r_10]) ⟨hx, hb, hml, hown, hts⟩ (c_X5_sizeOfHole l D cI cZ cW q0 p0 s0 _ hf) ⟨callB_of 1 hts (gA tw_321) rfl rfl rfl (ht _ tw_4) (ht _ tw_412) hd_X5_sizeOfHole ⟨Nat.le_of_ble_eq_true rfl, Nat.le_of_ble_eq_true rfl⟩, ht _ tw_319, ht _ tw_320⟩ ⟨PR_blind, va_recv hK hP (ci := 3) (q0 := 0) rfl rfl, fun U hU hW => PR_mk hPc hK hU hW⟩ rfl rfl hl.1 rfl (lv_room (Nat.le_of_ble_eq_true rfl)) dX5_joinPair_7 ⟨Nat.zero_le _, Nat.zero_le _⟩) (fun r_11 hf => ?_)
    refine lv_icmp_le (tgt := 17) hx hb dX5_joinPair_10 (by decide) (fun c_12 => ?_) (fun c_12 => ?_)
    · have hf := hf.1 c_12
      refine lv_iconst (v := (0 : Int32)) hx hb dX5_joinPair_17 (by decide) ?_
      exact k_18 p0 p1 (0 : Int32) s0 H locs ls hf hP hD hS (lv_sub hl [0, 1, 2] rfl)
    · have hf := hf.2 c_12
      refine lv_iconst (v := (1 : Int32)) hx hb dX5_joinPair_13 (by decide) ?_
      refine lv_goto (tgt := 18) hx hb dX5_joinPair_14 (by decide) ?_
      exact k_18 p0 p1 (1 : Int32) s0 H locs ls hf hP hD hS (lv_sub hl [0, 1, 2] rfl)
  exact start s.heap [] hP hD hS
def LB_X5_joinFirstPair_21 (G21 : (Int32 × Int32 × Int32 × CS) → Prop) (G2 : (Int32 × CS) → Prop)  (x1 : Int32) (x2 : Int32) (x3 : Int32) (s0 : CS) (Q : Int32 → CS → Prop) : Prop := (((5 : Int32) ≤ x3 → ∀ x1_2 : Int32, x1_2 = x1 + (1 : Int32) → G2 (x1_2, s0)) ∧ (¬ (5 : Int32) ≤ x3 → vp_in x3 5 ∧ (((x2 &&& ((s0.2.1 0) x3.toNatClampNeg)) = 0 → ∀ x3_5 : Int32, x3_5 = x3 + (1 : Int32) → G21 (x1, x2, x3_5, s0)) ∧ (¬ (x2 &&& ((s0.2.1 0) x3.toNatClampNeg)) = 0 → wp_X5_joinPair x1 x3 s0 (fun s0_6 => Q (1 : Int32) s0_6)))))
def B_X5_joinFirstPair_21 (G2 : (Int32 × CS) → Prop)  (x1 : Int32) (x2 : Int32) (x3 : Int32) (s0 : CS) (Q : Int32 → CS → Prop) : Prop := LOOP (fun (G21 : (Int32 × Int32 × Int32 × CS) → Prop) z => LB_X5_joinFirstPair_21 G21 G2  z.1 z.2.1 z.2.2.1 z.2.2.2 Q) (x1, x2, x3, s0)
def LB_X5_joinFirstPair_2 (G2 : (Int32 × CS) → Prop)  (x1 : Int32) (s0 : CS) (Q : Int32 → CS → Prop) : Prop := (((5 : Int32) ≤ x1 → Q (0 : Int32) s0) ∧ (¬ (5 : Int32) ≤ x1 → vp_in x1 5 ∧ wp_X2_beside ((s0.2.1 0) x1.toNatClampNeg) (fun r_9 => ∀ x3_10 : Int32, x3_10 = (x1 + (1 : Int32)) → B_X5_joinFirstPair_21 G2  x1 r_9 x3_10 s0 Q)))
def B_X5_joinFirstPair_2  (x1 : Int32) (s0 : CS) (Q : Int32 → CS → Prop) : Prop := LOOP (fun (G2 : (Int32 × CS) → Prop) z => LB_X5_joinFirstPair_2 G2  z.1 z.2 Q) (x1, s0)
def wp_X5_joinFirstPair (s0 : CS) (Q : Int32 → CS → Prop) : Prop := B_X5_joinFirstPair_2  (0 : Int32) s0 Q
set_option maxHeartbeats 4000000 in
set_option maxRecDepth 100000 in
theorem c_X5_joinFirstPair (l : Launch) (D : va_G) (cI cZ cW : ClassId) (q0 : Nat → Nat) (sz : Nat) (s0 : CS) (Q : Int32 → CS → Prop) (hf : wp_X5_joinFirstPair s0 Q) : Met l yX5_joinFirstPair (wsA yX5_joinFirstPair cX5_joinFirstPair 4 (some .boolean)) ({ frames := 3, cells := 0, slots := 0, locals := 68 }) (PW D cI cZ cW [.ref (q0 0)] (wW cI cZ q0 s0) sz) (va_Qi (fun (r : Int32) (u : CS) => Q r u) (fun u t => va_P D classes (wW cI cZ q0 u) t.heap) (va_A (wW cI cZ q0 s0) sz)) 0 0 (va_A (wW cI cZ q0 s0) sz) := by
  refine Met.ofW (cc := cX5_joinFirstPair) (maxL := 4) (ret := (some .boolean)) (by decide) rfl ?_
  intro p e s m args below meth c s₁ B hml hv
  obtain ⟨rfl, hsz, hP, hK, hD0⟩ := hv
  have hx := B.exec
  have hb := B.bytes
  have hr := B.returns
  have hts := atoms_spec (ws := (wsA yX5_joinFirstPair cX5_joinFirstPair 4 (some .boolean))) B.pre
  have ht : ∀ w ∈ lw_g, w.before _ s = true := fun w h => hts w (List.mem_cons_of_mem _ h)
  have hown : s.vm.findClass RX5 = some m.cls := findClass_of_methodNamed B.named
  have hlocks := B.notSynchronized
  subst hsz
  have hD := hD0.self (sz := s.heap.size)
  generalize hAe : va_A (wW cI cZ q0 s0) s.heap.size = A at hD ⊢
  have hA : ∀ q : Nat, s.heap.size ≤ q → A q := fun q h => by rw [← hAe]; exact Or.inr h
  have hS : va_S A s.heap s.heap [] := va_S.rf
  have hl := lv_entry ([.ref (q0 0)]) (n := 4) (Nat.le_of_ble_eq_true rfl)
  rw [lg_entry_eq]
  generalize (lg_sl ([.ref (q0 0)]) ++ List.replicate (4 - (lg_sl ([.ref (q0 0)])).length) Slot.unset).toArray = ls at hl ⊢
  have hl : lv_has ls 4 [(0, .ref (q0 0))] := hl
  unfold wp_X5_joinFirstPair at hf
  have k_2 : ∀ (x1 : Int32) (s0 : CS) (H : Heap) (locs : List Loc) (ls : Array Slot), B_X5_joinFirstPair_2  x1 s0 Q → va_P D classes (wW cI cZ q0 s0) H → va_D A (wW cI cZ q0 s0) → va_S A s.heap H locs → lv_has ls 4 [(0, .ref (q0 0)), (1, .int x1)] → W p l e (headSpec (wsA yX5_joinFirstPair cX5_joinFirstPair 4 (some .boolean)) ({ frames := 3, cells := 0, slots := 0, locals := 68 })).room s m (#[.ref (q0 0)] : Array Value) below meth c H locs 0 0 (MQ below (va_Qi (fun (r : Int32) (u : CS) => Q r u) (fun u t => va_P D classes (wW cI cZ q0 u) t.heap) A) (#[.ref (q0 0)] : Array Value) s 0 0 A) (F0 m 2 ls []) := by
    intro x1 s0 H locs ls hf hP hD hS hl
    unfold B_X5_joinFirstPair_2 at hf
    obtain ⟨I_2, ⟨n0_2, hI0_2⟩, hst_2⟩ := hf
    have main_2 : ∀ (n : Nat) (x1 : Int32) (s0 : CS) (H : Heap) (locs : List Loc) (ls : Array Slot), I_2 n (x1, s0) → va_P D classes (wW cI cZ q0 s0) H → va_D A (wW cI cZ q0 s0) → va_S A s.heap H locs → lv_has ls 4 [(0, .ref (q0 0)), (1, .int x1)] → W p l e (headSpec (wsA yX5_joinFirstPair cX5_joinFirstPair 4 (some .boolean)) ({ frames := 3, cells := 0, slots := 0, locals := 68 })).room s m (#[.ref (q0 0)] : Array Value) below meth c H locs 0 0 (MQ below (va_Qi (fun (r : Int32) (u : CS) => Q r u) (fun u t => va_P D classes (wW cI cZ q0 u) t.heap) A) (#[.ref (q0 0)] : Array Value) s 0 0 A) (F0 m 2 ls []) := by
      intro n
      induction n using Nat.strongRecOn with
      | _ n_2 ih_2 =>
      intro x1 s0 H locs ls hI hP hD hS hl
      have hf : LB_X5_joinFirstPair_2 (fun z => ∃ k, k < n_2 ∧ I_2 k z)  x1 s0 Q := hst_2 n_2 (x1, s0) hI
      have hG_2 : ∀ (x1 : Int32) (s0 : CS) (H : Heap) (locs : List Loc) (ls : Array Slot), (∃ k, k < n_2 ∧ I_2 k (x1, s0)) → va_P D classes (wW cI cZ q0 s0) H → va_D A (wW cI cZ q0 s0) → va_S A s.heap H locs → lv_has ls 4 [(0, .ref (q0 0)), (1, .int x1)] → W p l e (headSpec (wsA yX5_joinFirstPair cX5_joinFirstPair 4 (some .boolean)) ({ frames := 3, cells := 0, slots := 0, locals := 68 })).room s m (#[.ref (q0 0)] : Array Value) below meth c H locs 0 0 (MQ below (va_Qi (fun (r : Int32) (u : CS) => Q r u) (fun u t => va_P D classes (wW cI cZ q0 u) t.heap) A) (#[.ref (q0 0)] : Array Value) s 0 0 A) (F0 m 2 ls []) := by
        rintro x1 s0 H locs ls ⟨k, hk, hI⟩ hP hD hS hl
        exact ih_2 k hk x1 s0 H locs ls hI hP hD hS hl
      unfold LB_X5_joinFirstPair_2 at hf
      have k_21 : ∀ (x1 : Int32) (x2 : Int32) (x3 : Int32) (s0 : CS) (H : Heap) (locs : List Loc) (ls : Array Slot), B_X5_joinFirstPair_21 (fun z => ∃ k, k < n_2 ∧ I_2 k z)  x1 x2 x3 s0 Q → va_P D classes (wW cI cZ q0 s0) H → va_D A (wW cI cZ q0 s0) → va_S A s.heap H locs → lv_has ls 4 [(0, .ref (q0 0)), (1, .int x1), (2, .int x2), (3, .int x3)] → W p l e (headSpec (wsA yX5_joinFirstPair cX5_joinFirstPair 4 (some .boolean)) ({ frames := 3, cells := 0, slots := 0, locals := 68 })).room s m (#[.ref (q0 0)] : Array Value) below meth c H locs 0 0 (MQ below (va_Qi (fun (r : Int32) (u : CS) => Q r u) (fun u t => va_P D classes (wW cI cZ q0 u) t.heap) A) (#[.ref (q0 0)] : Array Value) s 0 0 A) (F0 m 21 ls []) := by
        intro x1 x2 x3 s0 H locs ls hf hP hD hS hl
        unfold B_X5_joinFirstPair_21 at hf
        obtain ⟨I_21, ⟨n0_21, hI0_21⟩, hst_21⟩ := hf
        have main_21 : ∀ (n : Nat) (x1 : Int32) (x2 : Int32) (x3 : Int32) (s0 : CS) (H : Heap) (locs : List Loc) (ls : Array Slot), I_21 n (x1, x2, x3, s0) → va_P D classes (wW cI cZ q0 s0) H → va_D A (wW cI cZ q0 s0) → va_S A s.heap H locs → lv_has ls 4 [(0, .ref (q0 0)), (1, .int x1), (2, .int x2), (3, .int x3)] → W p l e (headSpec (wsA yX5_joinFirstPair cX5_joinFirstPair 4 (some .boolean)) ({ frames := 3, cells := 0, slots := 0, locals := 68 })).room s m (#[.ref (q0 0)] : Array Value) below meth c H locs 0 0 (MQ below (va_Qi (fun (r : Int32) (u : CS) => Q r u) (fun u t => va_P D classes (wW cI cZ q0 u) t.heap) A) (#[.ref (q0 0)] : Array Value) s 0 0 A) (F0 m 21 ls []) := by
          intro n
          induction n using Nat.strongRecOn with
          | _ n_21 ih_21 =>
          intro x1 x2 x3 s0 H locs ls hI hP hD hS hl
          have hf : LB_X5_joinFirstPair_21 (fun z => ∃ k, k < n_21 ∧ I_21 k z) (fun z => ∃ k, k < n_2 ∧ I_2 k z)  x1 x2 x3 s0 Q := hst_21 n_21 (x1, x2, x3, s0) hI
          have hG_21 : ∀ (x1 : Int32) (x2 : Int32) (x3 : Int32) (s0 : CS) (H : Heap) (locs : List Loc) (ls : Array Slot), (∃ k, k < n_21 ∧ I_21 k (x1, x2, x3, s0)) → va_P D classes (wW cI cZ q0 s0) H → va_D A (wW cI cZ q0 s0) → va_S A s.heap H locs → lv_has ls 4 [(0, .ref (q0 0)), (1, .int x1), (2, .int x2), (3, .int x3)] → W p l e (headSpec (wsA yX5_joinFirstPair cX5_joinFirstPair 4 (some .boolean)) ({ frames := 3, cells := 0, slots := 0, locals := 68 })).room s m (#[.ref (q0 0)] : Array Value) below meth c H locs 0 0 (MQ below (va_Qi (fun (r : Int32) (u : CS) => Q r u) (fun u t => va_P D classes (wW cI cZ q0 u) t.heap) A) (#[.ref (q0 0)] : Array Value) s 0 0 A) (F0 m 21 ls []) := by
            rintro x1 x2 x3 s0 H locs ls ⟨k, hk, hI⟩ hP hD hS hl
            exact ih_21 k hk x1 x2 x3 s0 H locs ls hI hP hD hS hl
          unfold LB_X5_joinFirstPair_21 at hf
          refine lv_iload_n hx hb dX5_joinFirstPair_21 rfl (lv_at hl 3 rfl) ?_
          refine lv_iconst (v := (5 : Int32)) hx hb dX5_joinFirstPair_22 (by decide) ?_
          refine lv_icmp_ge (tgt := 51) hx hb dX5_joinFirstPair_23 (by decide) (fun c_1 => ?_) (fun c_1 => ?_)
          · have hf := hf.1 c_1
            obtain ⟨x1_2, ex1_2⟩ : ∃ y : Int32, y = x1 + (1 : Int32) := ⟨_, rfl⟩
            have hf := hf x1_2 ex1_2
            refine lv_iinc (v := x1_2) (lv' := [(1, .int x1_2), (0, .ref (q0 0)), (2, .int x2), (3, .int x3)]) hx hb dX5_joinFirstPair_51 hl (k := 1) rfl (by rw [ex1_2]; rfl) (by decide) rfl (fun ls hl => ?_)
            refine lv_goto (tgt := 2) hx hb dX5_joinFirstPair_54 (by decide) ?_
            exact hG_2 x1_2 s0 H locs ls hf hP hD hS (lv_sub hl [1, 0] rfl)
          · have hf := hf.2 c_1
            refine lv_iload_n hx hb dX5_joinFirstPair_26 rfl (lv_at hl 2 rfl) ?_
            refine lv_aload_n hx hb dX5_joinFirstPair_27 rfl (lv_at hl 0 rfl) ?_
            refine va_get (D := D) (ci := 3) (v := .ref (q0 1)) (C := RX5) (T := TX5) (N := 6) hx hb ht inX5 hown hK hP 0 rfl rfl 0 (by decide) (ht _ tw_91) (fun _ h9 => h9) rfl dX5_joinFirstPair_28 ?_
            refine lv_iload_n hx hb dX5_joinFirstPair_31 rfl (lv_at hl 3 rfl) ?_
            obtain ⟨hi_3, hf⟩ := hf
            refine va_iald hx hb hK hP 1 0 rfl rfl hi_3 dX5_joinFirstPair_32 ?_
            refine lv_iand hx hb dX5_joinFirstPair_33 ?_
            refine lv_if_eq (tgt := 45) hx hb dX5_joinFirstPair_34 (by decide) (fun c_4 => ?_) (fun c_4 => ?_)
            · have hf := hf.1 c_4
              obtain ⟨x3_5, ex3_5⟩ : ∃ y : Int32, y = x3 + (1 : Int32) := ⟨_, rfl⟩
              have hf := hf x3_5 ex3_5
              refine lv_iinc (v := x3_5) (lv' := [(3, .int x3_5), (0, .ref (q0 0)), (1, .int x1), (2, .int x2)]) hx hb dX5_joinFirstPair_45 hl (k := 3) rfl (by rw [ex3_5]; rfl) (by decide) rfl (fun ls hl => ?_)
              refine lv_goto (tgt := 21) hx hb dX5_joinFirstPair_48 (by decide) ?_
              exact hG_21 x1 x2 x3_5 s0 H locs ls hf hP hD hS (lv_sub hl [1, 2, 3, 0] rfl)
            · have hf := hf.2 c_4
              refine lv_aload_n hx hb dX5_joinFirstPair_37 rfl (lv_at hl 0 rfl) ?_
              refine lv_iload_n hx hb dX5_joinFirstPair_38 rfl (lv_at hl 1 rfl) ?_
              refine lv_iload_n hx hb dX5_joinFirstPair_39 rfl (lv_at hl 3 rfl) ?_
              have hPc : va_P D classes (wW cI cZ q0 s0) H := hP
              have hDc : va_D A (wW cI cZ q0 s0) := hD
              have hFc := va_free (wc := (wW cI cZ q0 s0)) hD hS hA [0, 1, 2, 3, 4] rfl
              refine va_callv (va_runV (As := [.int x1, .int x3]) (rest := []) ⟨hx, hb, hml, hown, hts⟩ (c_X5_joinPair l D cI cZ cW q0 H.size x1 x3 s0 _ hf) ⟨callB_of 2 hts (gA tw_411) rfl rfl rfl (ht _ tw_4) (ht _ tw_408) hd_X5_joinPair ⟨Nat.le_of_ble_eq_true rfl, Nat.le_of_ble_eq_true rfl⟩, ht _ tw_410, ht _ twp_12⟩ ⟨PW_blind, va_recv hK hP (ci := 3) (q0 := 0) rfl rfl, fun U hU hW => PW_mk hPc hDc hK hU hW⟩ rfl rfl hl.1 rfl (lv_room (Nat.le_of_ble_eq_true rfl)) dX5_joinFirstPair_40 ⟨Nat.zero_le _, Nat.zero_le _⟩) hS (fun q _ h => hFc q h) hFc (fun u t H1 locs ht1 hvm hf hB hz1 hk1 hS => ?_)
              obtain ⟨s0_6, rfl⟩ : ∃ z, z = u := ⟨_, rfl⟩
              rw [ht1] at hB
              obtain ⟨hP, hD⟩ := cj [0, 1, 2, 3, 4] (wW cI cZ q0 s0) (wW cI cZ q0 s0_6) hP hD rfl rfl hk1 hB
              generalize H1 = H at hP hS ⊢
              have hP : va_P D classes (wW cI cZ q0 s0_6) H := hP
              have hD : va_D A (wW cI cZ q0 s0_6) := hD
              refine lv_iconst (v := (1 : Int32)) hx hb dX5_joinFirstPair_43 (by decide) ?_
              exact W.zret (v := (1 : Int32)) hx hb hr rfl (fun t ht hW => ⟨⟨(1 : Int32), s0_6, rfl, hf, P_heap ht hP⟩, hS.F ht⟩) hS.2.2 dX5_joinFirstPair_44
        exact main_21 n0_21 x1 x2 x3 s0 H locs ls hI0_21 hP hD hS hl
      refine lv_iload_n hx hb dX5_joinFirstPair_2 rfl (lv_at hl 1 rfl) ?_
      refine lv_iconst (v := (5 : Int32)) hx hb dX5_joinFirstPair_3 (by decide) ?_
      refine lv_icmp_ge (tgt := 57) hx hb dX5_joinFirstPair_4 (by decide) (fun c_7 => ?_) (fun c_7 => ?_)
      · have hf := hf.1 c_7
        refine lv_iconst (v := (0 : Int32)) hx hb dX5_joinFirstPair_57 (by decide) ?_
        exact W.zret (v := (0 : Int32)) hx hb hr rfl (fun t ht hW => ⟨⟨(0 : Int32), s0, rfl, hf, P_heap ht hP⟩, hS.F ht⟩) hS.2.2 dX5_joinFirstPair_58
      · have hf := hf.2 c_7
        refine lv_aload_n hx hb dX5_joinFirstPair_7 rfl (lv_at hl 0 rfl) ?_
        refine va_get (D := D) (ci := 3) (v := .ref (q0 1)) (C := RX5) (T := TX5) (N := 6) hx hb ht inX5 hown hK hP 0 rfl rfl 0 (by decide) (ht _ tw_91) (fun _ h9 => h9) rfl dX5_joinFirstPair_8 ?_
        refine lv_iload_n hx hb dX5_joinFirstPair_11 rfl (lv_at hl 1 rfl) ?_
        obtain ⟨hi_8, hf⟩ := hf
        refine va_iald hx hb hK hP 1 0 rfl rfl hi_8 dX5_joinFirstPair_12 ?_
        have hPc : va_P D classes ([] : va_W) H := hP.sub [] rfl
        refine vp_callSi (W.runS (As := [.int ((s0.2.1 0) x1.toNatClampNeg)]) (rest := []) ⟨hx, hb, hml, hown, hts⟩ (c_X2_beside l D cI cZ cW  ((s0.2.1 0) x1.toNatClampNeg) _ hf) ⟨callB_of 1 hts (gA tw_385) rfl rfl rfl (ht _ tw_9) (ht _ tw_383) hd_X2_beside ⟨Nat.le_of_ble_eq_true rfl, Nat.le_of_ble_eq_true rfl⟩, ht _ tw_384⟩ ⟨PR_blind, fun U hU hW => PR_mk hPc hK hU hW⟩ rfl rfl hl.1 rfl (lv_room (Nat.le_of_ble_eq_true rfl)) dX5_joinFirstPair_13 ⟨Nat.zero_le _, Nat.zero_le _⟩) (fun r_9 hf => ?_)
        refine lv_istore_n (lv' := [(2, .int r_9), (0, .ref (q0 0)), (1, .int x1)]) hx hb dX5_joinFirstPair_16 rfl hl (by decide) rfl (fun ls hl => ?_)
        refine lv_iload_n hx hb dX5_joinFirstPair_17 rfl (lv_at hl 2 rfl) ?_
        refine lv_iconst (v := (1 : Int32)) hx hb dX5_joinFirstPair_18 (by decide) ?_
        refine lv_iadd hx hb dX5_joinFirstPair_19 ?_
        refine lv_topi (fun x3_10 ex3_10 => ?_)
        have hf := hf x3_10 ex3_10
        refine lv_istore_n (lv' := [(3, .int x3_10), (2, .int r_9), (0, .ref (q0 0)), (1, .int x1)]) hx hb dX5_joinFirstPair_20 rfl hl (by decide) rfl (fun ls hl => ?_)
        exact k_21 x1 r_9 x3_10 s0 H locs ls hf hP hD hS (lv_sub hl [2, 3, 1, 0] rfl)
    exact main_2 n0_2 x1 s0 H locs ls hI0_2 hP hD hS hl
  have start : ∀ (H : Heap) (locs : List Loc), va_P D classes (wW cI cZ q0 s0) H → va_D A (wW cI cZ q0 s0) → va_S A s.heap H locs → W p l e (headSpec (wsA yX5_joinFirstPair cX5_joinFirstPair 4 (some .boolean)) ({ frames := 3, cells := 0, slots := 0, locals := 68 })).room s m (#[.ref (q0 0)] : Array Value) below meth c H locs 0 0 (MQ below (va_Qi (fun (r : Int32) (u : CS) => Q r u) (fun u t => va_P D classes (wW cI cZ q0 u) t.heap) A) (#[.ref (q0 0)] : Array Value) s 0 0 A) (F0 m 0 ls []) := by
    intro H locs hP hD hS
    refine lv_iconst (v := (0 : Int32)) hx hb dX5_joinFirstPair_0 (by decide) ?_
    refine lv_istore_n (lv' := [(1, .int (0 : Int32)), (0, .ref (q0 0))]) hx hb dX5_joinFirstPair_1 rfl hl (by decide) rfl (fun ls hl => ?_)
    exact k_2 (0 : Int32) s0 H locs ls hf hP hD hS (lv_sub hl [1, 0] rfl)
  exact start s.heap [] hP hD hS
def B_X5_payRent_43  (x2 : Int32) (x3 : Int32) (x4 : Int32) (s0 : CS) (s1 : CS) (Q : CS → CS → Prop) : Prop := wp_X3_get x2 5 (s0.2.1 1) (fun r_1 => wp_X5_pay x3 r_1 x4 s0 (fun s0_2 => Q s0_2 s1))
def wp_X5_payRent (p1 : Int32) (s0 : CS) (s1 : CS) (Q : CS → CS → Prop) : Prop := wp_X3_get p1 5 (s0.2.1 2) (fun r_3 => wp_X1_hasOwner r_3 s1 (fun r_4 => ((¬ r_4 = 0 → wp_X5_sizeOfHole p1 s0 (fun r_6 => wp_X3_get r_3 4 (s1.2.1 2) (fun r_7 => ((¬ r_7 = (3 : Int32) → B_X5_payRent_43  p1 r_3 r_6 s0 s1 Q) ∧ (r_7 = (3 : Int32) → ∀ x4_9 : Int32, x4_9 = (r_6 / (2 : Int32)) → B_X5_payRent_43  p1 r_3 x4_9 s0 s1 Q))))) ∧ (r_4 = 0 → Q s0 s1))))
set_option maxHeartbeats 4000000 in
set_option maxRecDepth 100000 in
theorem c_X5_payRent (l : Launch) (D : va_G) (cI cZ cW : ClassId) (q0 : Nat → Nat) (q1 : Nat → Nat) (sz : Nat) (p1 : Int32) (s0 : CS) (s1 : CS) (Q : CS → CS → Prop) (hf : wp_X5_payRent p1 s0 s1 Q) : Met l yX5_payRent (wsA yX5_payRent cX5_payRent 5 none) ({ frames := 2, cells := 0, slots := 0, locals := 45 }) (PW D cI cZ cW [.ref (q0 0), .ref (q1 0), .int p1] (wW cI cZ q0 s0 ++ wD cI cZ q1 s1) sz) (va_Qv (fun (u : CS × CS) => Q u.1 u.2) (fun u t => va_P D classes (wW cI cZ q0 u.1 ++ wD cI cZ q1 u.2) t.heap) (va_A (wW cI cZ q0 s0 ++ wD cI cZ q1 s1) sz)) 0 0 (va_A (wW cI cZ q0 s0 ++ wD cI cZ q1 s1) sz) := by
  refine Met.ofW (cc := cX5_payRent) (maxL := 5) (ret := none) (by decide) rfl ?_
  intro p e s m args below meth c s₁ B hml hv
  obtain ⟨rfl, hsz, hP, hK, hD0⟩ := hv
  have hx := B.exec
  have hb := B.bytes
  have hr := B.returns
  have hts := atoms_spec (ws := (wsA yX5_payRent cX5_payRent 5 none)) B.pre
  have ht : ∀ w ∈ lw_g, w.before _ s = true := fun w h => hts w (List.mem_cons_of_mem _ h)
  have hown : s.vm.findClass RX5 = some m.cls := findClass_of_methodNamed B.named
  have hlocks := B.notSynchronized
  subst hsz
  have hD := hD0.self (sz := s.heap.size)
  generalize hAe : va_A (wW cI cZ q0 s0 ++ wD cI cZ q1 s1) s.heap.size = A at hD ⊢
  have hA : ∀ q : Nat, s.heap.size ≤ q → A q := fun q h => by rw [← hAe]; exact Or.inr h
  have hS : va_S A s.heap s.heap [] := va_S.rf
  have hl := lv_entry ([.ref (q0 0), .ref (q1 0), .int p1]) (n := 5) (Nat.le_of_ble_eq_true rfl)
  rw [lg_entry_eq]
  generalize (lg_sl ([.ref (q0 0), .ref (q1 0), .int p1]) ++ List.replicate (5 - (lg_sl ([.ref (q0 0), .ref (q1 0), .int p1])).length) Slot.unset).toArray = ls at hl ⊢
  have hl : lv_has ls 5 [(0, .ref (q0 0)), (1, .ref (q1 0)), (2, .int p1)] := hl
  unfold wp_X5_payRent at hf
  have k_43 : ∀ (x2 : Int32) (x3 : Int32) (x4 : Int32) (s0 : CS) (s1 : CS) (H : Heap) (locs : List Loc) (ls : Array Slot), B_X5_payRent_43  x2 x3 x4 s0 s1 Q → va_P D classes (wW cI cZ q0 s0 ++ wD cI cZ q1 s1) H → va_D A (wW cI cZ q0 s0 ++ wD cI cZ q1 s1) → va_S A s.heap H locs → lv_has ls 5 [(0, .ref (q0 0)), (2, .int x2), (3, .int x3), (4, .int x4)] → W p l e (headSpec (wsA yX5_payRent cX5_payRent 5 none) ({ frames := 2, cells := 0, slots := 0, locals := 45 })).room s m (#[.ref (q0 0), .ref (q1 0), .int p1] : Array Value) below meth c H locs 0 0 (MQ below (va_Qv (fun (u : CS × CS) => Q u.1 u.2) (fun u t => va_P D classes (wW cI cZ q0 u.1 ++ wD cI cZ q1 u.2) t.heap) A) (#[.ref (q0 0), .ref (q1 0), .int p1] : Array Value) s 0 0 A) (F0 m 43 ls []) := by
    intro x2 x3 x4 s0 s1 H locs ls hf hP hD hS hl
    unfold B_X5_payRent_43 at hf
    refine lv_aload_n hx hb dX5_payRent_43 rfl (lv_at hl 0 rfl) ?_
    refine lv_iload_n hx hb dX5_payRent_44 rfl (lv_at hl 2 rfl) ?_
    refine lv_aload_n hx hb dX5_payRent_45 rfl (lv_at hl 0 rfl) ?_
    refine va_get (D := D) (ci := 3) (v := .ref (q0 2)) (C := RX5) (T := TX5) (N := 6) hx hb ht inX5 hown hK hP 0 rfl rfl 1 (by decide) (ht _ tw_92) (fun _ h9 => h9) rfl dX5_payRent_46 ?_
    refine lv_iload_n hx hb dX5_payRent_49 rfl (lv_at hl 1 rfl) ?_
    have hPc : va_P D classes (wI cI (q0 2) 5 (s0.2.1 1)) H := hP.sub [2] rfl
    refine vp_callSi (W.runS (As := [.ref (q0 2), .int x2]) (rest := [.int x3, .ref (q0 0)]) ⟨hx, hb, hml, hown, hts⟩ (c_X3_get l D cI cZ cW (q0 2) x2 5 (s0.2.1 1) _ hf) ⟨callB_of 2 hts (gA tw_235) rfl rfl rfl (ht _ tw_8) (ht _ tw_342) hd_X3_get ⟨Nat.le_of_ble_eq_true rfl, Nat.le_of_ble_eq_true rfl⟩, ht _ tw_234⟩ ⟨PR_blind, fun U hU hW => PR_mk hPc hK hU hW⟩ rfl rfl hl.1 rfl (lv_room (Nat.le_of_ble_eq_true rfl)) dX5_payRent_50 ⟨Nat.zero_le _, Nat.zero_le _⟩) (fun r_1 hf => ?_)
    refine lv_iload hx hb dX5_payRent_53 (lv_at hl 3 rfl) ?_
    have hPc : va_P D classes (wW cI cZ q0 s0) H := hP.sub [0, 1, 2, 3, 4] rfl
    have hDc : va_D A (wW cI cZ q0 s0) := hD.sub [0, 1, 2, 3, 4] (by decide) rfl
    have hFc := va_free (wc := (wW cI cZ q0 s0)) hD hS hA [0, 1, 2, 3, 4] rfl
    refine va_callv (va_runV (As := [.int x3, .int r_1, .int x4]) (rest := []) ⟨hx, hb, hml, hown, hts⟩ (c_X5_pay l D cI cZ cW q0 H.size x3 r_1 x4 s0 _ hf) ⟨callB_of 3 hts (gA tw_399) rfl rfl rfl (ht _ tw_4) (ht _ tw_396) hd_X5_pay ⟨Nat.le_of_ble_eq_true rfl, Nat.le_of_ble_eq_true rfl⟩, ht _ tw_398, ht _ twp_10⟩ ⟨PW_blind, va_recv hK hP (ci := 3) (q0 := 0) rfl rfl, fun U hU hW => PW_mk hPc hDc hK hU hW⟩ rfl rfl hl.1 rfl (lv_room (Nat.le_of_ble_eq_true rfl)) dX5_payRent_55 ⟨Nat.zero_le _, Nat.zero_le _⟩) hS (fun q _ h => hFc q h) hFc (fun u t H1 locs ht1 hvm hf hB hz1 hk1 hS => ?_)
    obtain ⟨s0_2, rfl⟩ : ∃ z, z = u := ⟨_, rfl⟩
    rw [ht1] at hB
    obtain ⟨hP, hD⟩ := cj [0, 1, 2, 3, 4] (wW cI cZ q0 s0) (wW cI cZ q0 s0_2) hP hD rfl rfl hk1 hB
    generalize H1 = H at hP hS ⊢
    have hP : va_P D classes (wW cI cZ q0 s0_2 ++ wD cI cZ q1 s1) H := hP
    have hD : va_D A (wW cI cZ q0 s0_2 ++ wD cI cZ q1 s1) := hD
    exact W.vret hx hb hr (fun t ht hW => ⟨⟨(s0_2, s1), rfl, hf, P_heap ht hP⟩, hS.F ht⟩) hS.2.2 dX5_payRent_58
  have start : ∀ (H : Heap) (locs : List Loc), va_P D classes (wW cI cZ q0 s0 ++ wD cI cZ q1 s1) H → va_D A (wW cI cZ q0 s0 ++ wD cI cZ q1 s1) → va_S A s.heap H locs → W p l e (headSpec (wsA yX5_payRent cX5_payRent 5 none) ({ frames := 2, cells := 0, slots := 0, locals := 45 })).room s m (#[.ref (q0 0), .ref (q1 0), .int p1] : Array Value) below meth c H locs 0 0 (MQ below (va_Qv (fun (u : CS × CS) => Q u.1 u.2) (fun u t => va_P D classes (wW cI cZ q0 u.1 ++ wD cI cZ q1 u.2) t.heap) A) (#[.ref (q0 0), .ref (q1 0), .int p1] : Array Value) s 0 0 A) (F0 m 0 ls []) := by
    intro H locs hP hD hS
    refine lv_aload_n hx hb dX5_payRent_0 rfl (lv_at hl 0 rfl) ?_
    refine va_get (D := D) (ci := 3) (v := .ref (q0 3)) (C := RX5) (T := TX5) (N := 6) hx hb ht inX5 hown hK hP 0 rfl rfl 2 (by decide) (ht _ tw_94) (fun _ h9 => h9) rfl dX5_payRent_1 ?_
    refine lv_iload_n hx hb dX5_payRent_4 rfl (lv_at hl 2 rfl) ?_
    have hPc : va_P D classes (wI cI (q0 3) 5 (s0.2.1 2)) H := hP.sub [3] rfl
    refine vp_callSi (W.runS (As := [.ref (q0 3), .int p1]) (rest := []) ⟨hx, hb, hml, hown, hts⟩ (c_X3_get l D cI cZ cW (q0 3) p1 5 (s0.2.1 2) _ hf) ⟨callB_of 2 hts (gA tw_235) rfl rfl rfl (ht _ tw_8) (ht _ tw_342) hd_X3_get ⟨Nat.le_of_ble_eq_true rfl, Nat.le_of_ble_eq_true rfl⟩, ht _ tw_234⟩ ⟨PR_blind, fun U hU hW => PR_mk hPc hK hU hW⟩ rfl rfl hl.1 rfl (lv_room (Nat.le_of_ble_eq_true rfl)) dX5_payRent_5 ⟨Nat.zero_le _, Nat.zero_le _⟩) (fun r_3 hf => ?_)
    refine lv_istore_n (lv' := [(3, .int r_3), (0, .ref (q0 0)), (1, .ref (q1 0)), (2, .int p1)]) hx hb dX5_payRent_8 rfl hl (by decide) rfl (fun ls hl => ?_)
    refine lv_aload_n hx hb dX5_payRent_9 rfl (lv_at hl 2 rfl) ?_
    refine lv_iload_n hx hb dX5_payRent_10 rfl (lv_at hl 0 rfl) ?_
    have hPc : va_P D classes (wD cI cZ q1 s1) H := hP.sub [5, 6, 7, 8, 9, 10] rfl
    refine vp_callSi (W.runV (As := [.int r_3]) (rest := []) ⟨hx, hb, hml, hown, hts⟩ (c_X1_hasOwner l D cI cZ cW q1 r_3 s1 _ hf) ⟨callB_of 1 hts (gA tw_232) rfl rfl rfl (ht _ tw_2) (ht _ tw_302) hd_X1_hasOwner ⟨Nat.le_of_ble_eq_true rfl, Nat.le_of_ble_eq_true rfl⟩, ht _ tw_230, ht _ tw_231⟩ ⟨PR_blind, va_recv hK hP (ci := 1) (q0 := 5) rfl rfl, fun U hU hW => PR_mk hPc hK hU hW⟩ rfl rfl hl.1 rfl (lv_room (Nat.le_of_ble_eq_true rfl)) dX5_payRent_11 ⟨Nat.zero_le _, Nat.zero_le _⟩) (fun r_4 hf => ?_)
    refine lv_if_ne (tgt := 18) hx hb dX5_payRent_14 (by decide) (fun c_5 => ?_) (fun c_5 => ?_)
    · have hf := hf.1 c_5
      refine lv_aload_n hx hb dX5_payRent_18 rfl (lv_at hl 1 rfl) ?_
      refine lv_iload_n hx hb dX5_payRent_19 rfl (lv_at hl 3 rfl) ?_
      have hPc : va_P D classes (wW cI cZ q0 s0) H := hP.sub [0, 1, 2, 3, 4] rfl
      refine vp_callSi (W.runV (As := [.int p1]) (rest := []) ⟨hx, hb, hml, hown, hts⟩ (c_X5_sizeOfHole l D cI cZ cW q0 p1 s0 _ hf) ⟨callB_of 1 hts (gA tw_321) rfl rfl rfl (ht _ tw_4) (ht _ tw_412) hd_X5_sizeOfHole ⟨Nat.le_of_ble_eq_true rfl, Nat.le_of_ble_eq_true rfl⟩, ht _ tw_319, ht _ tw_320⟩ ⟨PR_blind, va_recv hK hP (ci := 3) (q0 := 0) rfl rfl, fun U hU hW => PR_mk hPc hK hU hW⟩ rfl rfl hl.1 rfl (lv_room (Nat.le_of_ble_eq_true rfl)) dX5_payRent_20 ⟨Nat.zero_le _, Nat.zero_le _⟩) (fun r_6 hf => ?_)
      refine lv_istore (lv' := [(4, .int r_6), (3, .int r_3), (0, .ref (q0 0)), (1, .ref (q1 0)), (2, .int p1)]) hx hb dX5_payRent_23 hl (by decide) rfl (fun ls hl => ?_)
      refine lv_aload_n hx hb dX5_payRent_25 rfl (lv_at hl 3 rfl) ?_
      refine va_get (D := D) (ci := 1) (v := .ref (q1 1)) (C := RX1) (T := TX1) (N := 14) hx hb ht inX1 hown hK hP 5 rfl rfl 2 (by decide) (ht _ tw_36) (fun _ h9 => h9) rfl dX5_payRent_26 ?_
      refine lv_iload_n hx hb dX5_payRent_29 rfl (lv_at hl 1 rfl) ?_
      have hPc : va_P D classes (wI cI (q1 1) 4 (s1.2.1 2)) H := hP.sub [6] rfl
      refine vp_callSi (W.runS (As := [.ref (q1 1), .int r_3]) (rest := []) ⟨hx, hb, hml, hown, hts⟩ (c_X3_get l D cI cZ cW (q1 1) r_3 4 (s1.2.1 2) _ hf) ⟨callB_of 2 hts (gA tw_235) rfl rfl rfl (ht _ tw_8) (ht _ tw_342) hd_X3_get ⟨Nat.le_of_ble_eq_true rfl, Nat.le_of_ble_eq_true rfl⟩, ht _ tw_234⟩ ⟨PR_blind, fun U hU hW => PR_mk hPc hK hU hW⟩ rfl rfl hl.1 rfl (lv_room (Nat.le_of_ble_eq_true rfl)) dX5_payRent_30 ⟨Nat.zero_le _, Nat.zero_le _⟩) (fun r_7 hf => ?_)
      refine lv_iconst (v := (3 : Int32)) hx hb dX5_payRent_33 (by decide) ?_
      refine lv_icmp_ne (tgt := 43) hx hb dX5_payRent_34 (by decide) (fun c_8 => ?_) (fun c_8 => ?_)
      · have hf := hf.1 c_8
        exact k_43 p1 r_3 r_6 s0 s1 H locs ls hf hP hD hS (lv_sub hl [2, 4, 1, 0] rfl)
      · have hf := hf.2 c_8
        refine lv_iload hx hb dX5_payRent_37 (lv_at hl 0 rfl) ?_
        refine lv_iconst (v := (2 : Int32)) hx hb dX5_payRent_39 (by decide) ?_
        refine lv_idiv hx hb dX5_payRent_40 (by decide) ?_
        refine lv_topi (fun x4_9 ex4_9 => ?_)
        have hf := hf x4_9 ex4_9
        refine lv_istore (lv' := [(4, .int x4_9), (3, .int r_3), (0, .ref (q0 0)), (1, .ref (q1 0)), (2, .int p1)]) hx hb dX5_payRent_41 hl (by decide) rfl (fun ls hl => ?_)
        exact k_43 p1 r_3 x4_9 s0 s1 H locs ls hf hP hD hS (lv_sub hl [2, 4, 1, 0] rfl)
    · have hf := hf.2 c_5
      exact W.vret hx hb hr (fun t ht hW => ⟨⟨(s0, s1), rfl, hf, P_heap ht hP⟩, hS.F ht⟩) hS.2.2 dX5_payRent_17
  exact start s.heap [] hP hD hS
def LB_X5_passDay_62 (G62 : (Int32 × Int32 × CS × CS) → Prop)  (x2 : Int32) (x3 : Int32) (s0 : CS) (s1 : CS) (Q : Int32 → CS → CS → Prop) : Prop := (((5 : Int32) ≤ x3 → ∀ s0_2 : CS, s0_2 = sI s0 5 ((s0.1 5) + (1 : Int32)) → Q x2 s0_2 s1) ∧ (¬ (5 : Int32) ≤ x3 → wp_X5_payRent x3 s0 s1 (fun s0_3 s1_4 => ∀ x3_5 : Int32, x3_5 = x3 + (1 : Int32) → G62 (x2, x3_5, s0_3, s1_4))))
def B_X5_passDay_62  (x2 : Int32) (x3 : Int32) (s0 : CS) (s1 : CS) (Q : Int32 → CS → CS → Prop) : Prop := LOOP (fun (G62 : (Int32 × Int32 × CS × CS) → Prop) z => LB_X5_passDay_62 G62  z.1 z.2.1 z.2.2.1 z.2.2.2 Q) (x2, x3, s0, s1)
def B_X5_passDay_60  (x2 : Int32) (s0 : CS) (s1 : CS) (Q : Int32 → CS → CS → Prop) : Prop := B_X5_passDay_62  x2 (0 : Int32) s0 s1 Q
def LB_X5_passDay_42 (G42 : (Int32 × CS × CS) → Prop)  (x2 : Int32) (s0 : CS) (s1 : CS) (Q : Int32 → CS → CS → Prop) : Prop := (((5 : Int32) ≤ x2 → B_X5_passDay_60  x2 s0 s1 Q) ∧ (¬ (5 : Int32) ≤ x2 → wp_X5_joinFirstPair s0 (fun r_8 s0_7 => ((r_8 = 0 → B_X5_passDay_60  x2 s0_7 s1 Q) ∧ (¬ r_8 = 0 → ∀ x2_10 : Int32, x2_10 = x2 + (1 : Int32) → G42 (x2_10, s0_7, s1))))))
def B_X5_passDay_42  (x2 : Int32) (s0 : CS) (s1 : CS) (Q : Int32 → CS → CS → Prop) : Prop := LOOP (fun (G42 : (Int32 × CS × CS) → Prop) z => LB_X5_passDay_42 G42  z.1 z.2.1 z.2.2 Q) (x2, s0, s1)
def LB_X5_passDay_16 (G16 : (Int32 × Int32 × Int32 × CS × CS) → Prop) (G2 : (Int32 × CS × CS) → Prop)  (x2 : Int32) (x3 : Int32) (x4 : Int32) (s0 : CS) (s1 : CS) (Q : Int32 → CS → CS → Prop) : Prop := ((x3 ≤ x4 → ∀ x2_12 : Int32, x2_12 = x2 + (1 : Int32) → G2 (x2_12, s0, s1)) ∧ (¬ x3 ≤ x4 → wp_X5_takeLeast x2 s0 s1 (fun s0_13 s1_14 => ∀ x4_15 : Int32, x4_15 = x4 + (1 : Int32) → G16 (x2, x3, x4_15, s0_13, s1_14))))
def B_X5_passDay_16 (G2 : (Int32 × CS × CS) → Prop)  (x2 : Int32) (x3 : Int32) (x4 : Int32) (s0 : CS) (s1 : CS) (Q : Int32 → CS → CS → Prop) : Prop := LOOP (fun (G16 : (Int32 × Int32 × Int32 × CS × CS) → Prop) z => LB_X5_passDay_16 G16 G2  z.1 z.2.1 z.2.2.1 z.2.2.2.1 z.2.2.2.2 Q) (x2, x3, x4, s0, s1)
def LB_X5_passDay_2 (G2 : (Int32 × CS × CS) → Prop)  (x2 : Int32) (s0 : CS) (s1 : CS) (Q : Int32 → CS → CS → Prop) : Prop := (((5 : Int32) ≤ x2 → B_X5_passDay_42  (0 : Int32) s0 s1 Q) ∧ (¬ (5 : Int32) ≤ x2 → wp_X1_turnsOf x2 s1 (fun r_17 => B_X5_passDay_16 G2  x2 r_17 (0 : Int32) s0 s1 Q)))
def B_X5_passDay_2  (x2 : Int32) (s0 : CS) (s1 : CS) (Q : Int32 → CS → CS → Prop) : Prop := LOOP (fun (G2 : (Int32 × CS × CS) → Prop) z => LB_X5_passDay_2 G2  z.1 z.2.1 z.2.2 Q) (x2, s0, s1)
def wp_X5_passDay (s0 : CS) (s1 : CS) (Q : Int32 → CS → CS → Prop) : Prop := B_X5_passDay_2  (0 : Int32) s0 s1 Q
set_option maxHeartbeats 4000000 in
set_option maxRecDepth 100000 in
theorem c_X5_passDay (l : Launch) (D : va_G) (cI cZ cW : ClassId) (q0 : Nat → Nat) (q1 : Nat → Nat) (sz : Nat) (s0 : CS) (s1 : CS) (Q : Int32 → CS → CS → Prop) (hf : wp_X5_passDay s0 s1 Q) : Met l yX5_passDay (wsA yX5_passDay cX5_passDay 5 (some .int)) ({ frames := 4, cells := 0, slots := 0, locals := 91 }) (PW D cI cZ cW [.ref (q0 0), .ref (q1 0)] (wW cI cZ q0 s0 ++ wD cI cZ q1 s1) sz) (va_Qi (fun (r : Int32) (u : CS × CS) => Q r u.1 u.2) (fun u t => va_P D classes (wW cI cZ q0 u.1 ++ wD cI cZ q1 u.2) t.heap) (va_A (wW cI cZ q0 s0 ++ wD cI cZ q1 s1) sz)) 0 0 (va_A (wW cI cZ q0 s0 ++ wD cI cZ q1 s1) sz) := by
  refine Met.ofW (cc := cX5_passDay) (maxL := 5) (ret := (some .int)) (by decide) rfl ?_
  intro p e s m args below meth c s₁ B hml hv
  obtain ⟨rfl, hsz, hP, hK, hD0⟩ := hv
  have hx := B.exec
  have hb := B.bytes
  have hr := B.returns
  have hts := atoms_spec (ws := (wsA yX5_passDay cX5_passDay 5 (some .int))) B.pre
  have ht : ∀ w ∈ lw_g, w.before _ s = true := fun w h => hts w (List.mem_cons_of_mem _ h)
  have hown : s.vm.findClass RX5 = some m.cls := findClass_of_methodNamed B.named
  have hlocks := B.notSynchronized
  subst hsz
  have hD := hD0.self (sz := s.heap.size)
  generalize hAe : va_A (wW cI cZ q0 s0 ++ wD cI cZ q1 s1) s.heap.size = A at hD ⊢
  have hA : ∀ q : Nat, s.heap.size ≤ q → A q := fun q h => by rw [← hAe]; exact Or.inr h
  have hS : va_S A s.heap s.heap [] := va_S.rf
  have hl := lv_entry ([.ref (q0 0), .ref (q1 0)]) (n := 5) (Nat.le_of_ble_eq_true rfl)
  rw [lg_entry_eq]
  generalize (lg_sl ([.ref (q0 0), .ref (q1 0)]) ++ List.replicate (5 - (lg_sl ([.ref (q0 0), .ref (q1 0)])).length) Slot.unset).toArray = ls at hl ⊢
  have hl : lv_has ls 5 [(0, .ref (q0 0)), (1, .ref (q1 0))] := hl
  unfold wp_X5_passDay at hf
  have k_62 : ∀ (x2 : Int32) (x3 : Int32) (s0 : CS) (s1 : CS) (H : Heap) (locs : List Loc) (ls : Array Slot), B_X5_passDay_62  x2 x3 s0 s1 Q → va_P D classes (wW cI cZ q0 s0 ++ wD cI cZ q1 s1) H → va_D A (wW cI cZ q0 s0 ++ wD cI cZ q1 s1) → va_S A s.heap H locs → lv_has ls 5 [(0, .ref (q0 0)), (1, .ref (q1 0)), (2, .int x2), (3, .int x3)] → W p l e (headSpec (wsA yX5_passDay cX5_passDay 5 (some .int)) ({ frames := 4, cells := 0, slots := 0, locals := 91 })).room s m (#[.ref (q0 0), .ref (q1 0)] : Array Value) below meth c H locs 0 0 (MQ below (va_Qi (fun (r : Int32) (u : CS × CS) => Q r u.1 u.2) (fun u t => va_P D classes (wW cI cZ q0 u.1 ++ wD cI cZ q1 u.2) t.heap) A) (#[.ref (q0 0), .ref (q1 0)] : Array Value) s 0 0 A) (F0 m 62 ls []) := by
    intro x2 x3 s0 s1 H locs ls hf hP hD hS hl
    unfold B_X5_passDay_62 at hf
    obtain ⟨I_62, ⟨n0_62, hI0_62⟩, hst_62⟩ := hf
    have main_62 : ∀ (n : Nat) (x2 : Int32) (x3 : Int32) (s0 : CS) (s1 : CS) (H : Heap) (locs : List Loc) (ls : Array Slot), I_62 n (x2, x3, s0, s1) → va_P D classes (wW cI cZ q0 s0 ++ wD cI cZ q1 s1) H → va_D A (wW cI cZ q0 s0 ++ wD cI cZ q1 s1) → va_S A s.heap H locs → lv_has ls 5 [(0, .ref (q0 0)), (1, .ref (q1 0)), (2, .int x2), (3, .int x3)] → W p l e (headSpec (wsA yX5_passDay cX5_passDay 5 (some .int)) ({ frames := 4, cells := 0, slots := 0, locals := 91 })).room s m (#[.ref (q0 0), .ref (q1 0)] : Array Value) below meth c H locs 0 0 (MQ below (va_Qi (fun (r : Int32) (u : CS × CS) => Q r u.1 u.2) (fun u t => va_P D classes (wW cI cZ q0 u.1 ++ wD cI cZ q1 u.2) t.heap) A) (#[.ref (q0 0), .ref (q1 0)] : Array Value) s 0 0 A) (F0 m 62 ls []) := by
      intro n
      induction n using Nat.strongRecOn with
      | _ n_62 ih_62 =>
      intro x2 x3 s0 s1 H locs ls hI hP hD hS hl
      have hf : LB_X5_passDay_62 (fun z => ∃ k, k < n_62 ∧ I_62 k z)  x2 x3 s0 s1 Q := hst_62 n_62 (x2, x3, s0, s1) hI
      have hG_62 : ∀ (x2 : Int32) (x3 : Int32) (s0 : CS) (s1 : CS) (H : Heap) (locs : List Loc) (ls : Array Slot), (∃ k, k < n_62 ∧ I_62 k (x2, x3, s0, s1)) → va_P D classes (wW cI cZ q0 s0 ++ wD cI cZ q1 s1) H → va_D A (wW cI cZ q0 s0 ++ wD cI cZ q1 s1) → va_S A s.heap H locs → lv_has ls 5 [(0, .ref (q0 0)), (1, .ref (q1 0)), (2, .int x2), (3, .int x3)] → W p l e (headSpec (wsA yX5_passDay cX5_passDay 5 (some .int)) ({ frames := 4, cells := 0, slots := 0, locals := 91 })).room s m (#[.ref (q0 0), .ref (q1 0)] : Array Value) below meth c H locs 0 0 (MQ below (va_Qi (fun (r : Int32) (u : CS × CS) => Q r u.1 u.2) (fun u t => va_P D classes (wW cI cZ q0 u.1 ++ wD cI cZ q1 u.2) t.heap) A) (#[.ref (q0 0), .ref (q1 0)] : Array Value) s 0 0 A) (F0 m 62 ls []) := by
        rintro x2 x3 s0 s1 H locs ls ⟨k, hk, hI⟩ hP hD hS hl
        exact ih_62 k hk x2 x3 s0 s1 H locs ls hI hP hD hS hl
      unfold LB_X5_passDay_62 at hf
      refine lv_iload_n hx hb dX5_passDay_62 rfl (lv_at hl 3 rfl) ?_
      refine lv_iconst (v := (5 : Int32)) hx hb dX5_passDay_63 (by decide) ?_
      refine lv_icmp_ge (tgt := 79) hx hb dX5_passDay_64 (by decide) (fun c_1 => ?_) (fun c_1 => ?_)
      · have hf := hf.1 c_1
        refine lv_aload_n hx hb dX5_passDay_79 rfl (lv_at hl 0 rfl) ?_
        refine lv_dup hx hb dX5_passDay_80 rfl ?_
        refine va_get (D := D) (ci := 3) (v := .int (s0.1 5)) (C := RX5) (T := TX5) (N := 6) hx hb ht inX5 hown hK hP 0 rfl rfl 5 (by decide) (ht _ tw_100) (fun _ h9 => h9) rfl dX5_passDay_81 ?_
        refine lv_iconst (v := (1 : Int32)) hx hb dX5_passDay_84 (by decide) ?_
        refine lv_iadd hx hb dX5_passDay_85 ?_
        refine va_put (D := D) (ci := 3) (v := .int ((s0.1 5) + (1 : Int32))) (ty := .int) (C := RX5) (T := TX5) (N := 6) hx hb ht inX5 tyX5 tyX5_ok nmX5 hown hK hP hD hS 0 rfl rfl 5 (by decide) (ht _ tw_100) (fun _ h9 => h9) rfl pf_I rfl rfl (Nat.le_of_ble_eq_true rfl) dX5_passDay_86 (fun H locs hP hD hS => ?_)
        obtain ⟨s0_2, es0_2⟩ : ∃ y : CS, y = sI s0 5 ((s0.1 5) + (1 : Int32)) := ⟨_, rfl⟩
        have hf := hf s0_2 es0_2
        have hP : va_P D classes (wW cI cZ q0 s0_2 ++ wD cI cZ q1 s1) H := by rw [es0_2]; exact hP
        have hD : va_D A (wW cI cZ q0 s0_2 ++ wD cI cZ q1 s1) := by rw [es0_2]; exact hD
        refine lv_iload_n hx hb dX5_passDay_89 rfl (lv_at hl 2 rfl) ?_
        exact W.iret (v := x2) hx hb hr (fun t ht hW => ⟨⟨x2, (s0_2, s1), rfl, hf, P_heap ht hP⟩, hS.F ht⟩) hS.2.2 dX5_passDay_90
      · have hf := hf.2 c_1
        refine lv_aload_n hx hb dX5_passDay_67 rfl (lv_at hl 0 rfl) ?_
        refine lv_aload_n hx hb dX5_passDay_68 rfl (lv_at hl 1 rfl) ?_
        refine lv_iload_n hx hb dX5_passDay_69 rfl (lv_at hl 3 rfl) ?_
        have hPc : va_P D classes (wW cI cZ q0 s0 ++ wD cI cZ q1 s1) H := hP
        have hDc : va_D A (wW cI cZ q0 s0 ++ wD cI cZ q1 s1) := hD
        have hFc := va_free (wc := (wW cI cZ q0 s0 ++ wD cI cZ q1 s1)) hD hS hA [0, 1, 2, 3, 4, 5, 6, 7, 8, 9, 10] rfl
        refine va_callv (va_runV (As := [.ref (q1 0), .int x3]) (rest := []) ⟨hx, hb, hml, hown, hts⟩ (c_X5_payRent l D cI cZ cW q0 q1 H.size x3 s0 s1 _ hf) ⟨callB_of 2 hts (gA tw_420) rfl rfl rfl (ht _ tw_4) (ht _ tw_417) hd_X5_payRent ⟨Nat.le_of_ble_eq_true rfl, Nat.le_of_ble_eq_true rfl⟩, ht _ tw_419, ht _ twp_14⟩ ⟨PW_blind, va_recv hK hP (ci := 3) (q0 := 0) rfl rfl, fun U hU hW => PW_mk hPc hDc hK hU hW⟩ rfl rfl hl.1 rfl (lv_room (Nat.le_of_ble_eq_true rfl)) dX5_passDay_70 ⟨Nat.zero_le _, Nat.zero_le _⟩) hS (fun q _ h => hFc q h) hFc (fun u t H1 locs ht1 hvm hf hB hz1 hk1 hS => ?_)
        obtain ⟨s0_3, s1_4⟩ := u
        dsimp only at hf hB
        rw [ht1] at hB
        obtain ⟨hP, hD⟩ := cj [0, 1, 2, 3, 4, 5, 6, 7, 8, 9, 10] (wW cI cZ q0 s0 ++ wD cI cZ q1 s1) (wW cI cZ q0 s0_3 ++ wD cI cZ q1 s1_4) hP hD rfl rfl hk1 hB
        generalize H1 = H at hP hS ⊢
        have hP : va_P D classes (wW cI cZ q0 s0_3 ++ wD cI cZ q1 s1_4) H := hP
        have hD : va_D A (wW cI cZ q0 s0_3 ++ wD cI cZ q1 s1_4) := hD
        obtain ⟨x3_5, ex3_5⟩ : ∃ y : Int32, y = x3 + (1 : Int32) := ⟨_, rfl⟩
        have hf := hf x3_5 ex3_5
        refine lv_iinc (v := x3_5) (lv' := [(3, .int x3_5), (0, .ref (q0 0)), (1, .ref (q1 0)), (2, .int x2)]) hx hb dX5_passDay_73 hl (k := 3) rfl (by rw [ex3_5]; rfl) (by decide) rfl (fun ls hl => ?_)
        refine lv_goto (tgt := 62) hx hb dX5_passDay_76 (by decide) ?_
        exact hG_62 x2 x3_5 s0_3 s1_4 H locs ls hf hP hD hS (lv_sub hl [1, 2, 3, 0] rfl)
    exact main_62 n0_62 x2 x3 s0 s1 H locs ls hI0_62 hP hD hS hl
  have k_60 : ∀ (x2 : Int32) (s0 : CS) (s1 : CS) (H : Heap) (locs : List Loc) (ls : Array Slot), B_X5_passDay_60  x2 s0 s1 Q → va_P D classes (wW cI cZ q0 s0 ++ wD cI cZ q1 s1) H → va_D A (wW cI cZ q0 s0 ++ wD cI cZ q1 s1) → va_S A s.heap H locs → lv_has ls 5 [(0, .ref (q0 0)), (1, .ref (q1 0)), (2, .int x2)] → W p l e (headSpec (wsA yX5_passDay cX5_passDay 5 (some .int)) ({ frames := 4, cells := 0, slots := 0, locals := 91 })).room s m (#[.ref (q0 0), .ref (q1 0)] : Array Value) below meth c H locs 0 0 (MQ below (va_Qi (fun (r : Int32) (u : CS × CS) => Q r u.1 u.2) (fun u t => va_P D classes (wW cI cZ q0 u.1 ++ wD cI cZ q1 u.2) t.heap) A) (#[.ref (q0 0), .ref (q1 0)] : Array Value) s 0 0 A) (F0 m 60 ls []) := by
    intro x2 s0 s1 H locs ls hf hP hD hS hl
    unfold B_X5_passDay_60 at hf
    refine lv_iconst (v := (0 : Int32)) hx hb dX5_passDay_60 (by decide) ?_
    refine lv_istore_n (lv' := [(3, .int (0 : Int32)), (0, .ref (q0 0)), (1, .ref (q1 0)), (2, .int x2)]) hx hb dX5_passDay_61 rfl hl (by decide) rfl (fun ls hl => ?_)
    exact k_62 x2 (0 : Int32) s0 s1 H locs ls hf hP hD hS (lv_sub hl [1, 2, 3, 0] rfl)
  have k_42 : ∀ (x2 : Int32) (s0 : CS) (s1 : CS) (H : Heap) (locs : List Loc) (ls : Array Slot), B_X5_passDay_42  x2 s0 s1 Q → va_P D classes (wW cI cZ q0 s0 ++ wD cI cZ q1 s1) H → va_D A (wW cI cZ q0 s0 ++ wD cI cZ q1 s1) → va_S A s.heap H locs → lv_has ls 5 [(0, .ref (q0 0)), (1, .ref (q1 0)), (2, .int x2)] → W p l e (headSpec (wsA yX5_passDay cX5_passDay 5 (some .int)) ({ frames := 4, cells := 0, slots := 0, locals := 91 })).room s m (#[.ref (q0 0), .ref (q1 0)] : Array Value) below meth c H locs 0 0 (MQ below (va_Qi (fun (r : Int32) (u : CS × CS) => Q r u.1 u.2) (fun u t => va_P D classes (wW cI cZ q0 u.1 ++ wD cI cZ q1 u.2) t.heap) A) (#[.ref (q0 0), .ref (q1 0)] : Array Value) s 0 0 A) (F0 m 42 ls []) := by
    intro x2 s0 s1 H locs ls hf hP hD hS hl
    unfold B_X5_passDay_42 at hf
    obtain ⟨I_42, ⟨n0_42, hI0_42⟩, hst_42⟩ := hf
    have main_42 : ∀ (n : Nat) (x2 : Int32) (s0 : CS) (s1 : CS) (H : Heap) (locs : List Loc) (ls : Array Slot), I_42 n (x2, s0, s1) → va_P D classes (wW cI cZ q0 s0 ++ wD cI cZ q1 s1) H → va_D A (wW cI cZ q0 s0 ++ wD cI cZ q1 s1) → va_S A s.heap H locs → lv_has ls 5 [(0, .ref (q0 0)), (1, .ref (q1 0)), (2, .int x2)] → W p l e (headSpec (wsA yX5_passDay cX5_passDay 5 (some .int)) ({ frames := 4, cells := 0, slots := 0, locals := 91 })).room s m (#[.ref (q0 0), .ref (q1 0)] : Array Value) below meth c H locs 0 0 (MQ below (va_Qi (fun (r : Int32) (u : CS × CS) => Q r u.1 u.2) (fun u t => va_P D classes (wW cI cZ q0 u.1 ++ wD cI cZ q1 u.2) t.heap) A) (#[.ref (q0 0), .ref (q1 0)] : Array Value) s 0 0 A) (F0 m 42 ls []) := by
      intro n
      induction n using Nat.strongRecOn with
      | _ n_42 ih_42 =>
      intro x2 s0 s1 H locs ls hI hP hD hS hl
      have hf : LB_X5_passDay_42 (fun z => ∃ k, k < n_42 ∧ I_42 k z)  x2 s0 s1 Q := hst_42 n_42 (x2, s0, s1) hI
      have hG_42 : ∀ (x2 : Int32) (s0 : CS) (s1 : CS) (H : Heap) (locs : List Loc) (ls : Array Slot), (∃ k, k < n_42 ∧ I_42 k (x2, s0, s1)) → va_P D classes (wW cI cZ q0 s0 ++ wD cI cZ q1 s1) H → va_D A (wW cI cZ q0 s0 ++ wD cI cZ q1 s1) → va_S A s.heap H locs → lv_has ls 5 [(0, .ref (q0 0)), (1, .ref (q1 0)), (2, .int x2)] → W p l e (headSpec (wsA yX5_passDay cX5_passDay 5 (some .int)) ({ frames := 4, cells := 0, slots := 0, locals := 91 })).room s m (#[.ref (q0 0), .ref (q1 0)] : Array Value) below meth c H locs 0 0 (MQ below (va_Qi (fun (r : Int32) (u : CS × CS) => Q r u.1 u.2) (fun u t => va_P D classes (wW cI cZ q0 u.1 ++ wD cI cZ q1 u.2) t.heap) A) (#[.ref (q0 0), .ref (q1 0)] : Array Value) s 0 0 A) (F0 m 42 ls []) := by
        rintro x2 s0 s1 H locs ls ⟨k, hk, hI⟩ hP hD hS hl
        exact ih_42 k hk x2 s0 s1 H locs ls hI hP hD hS hl
      unfold LB_X5_passDay_42 at hf
      refine lv_iload_n hx hb dX5_passDay_42 rfl (lv_at hl 2 rfl) ?_
      refine lv_iconst (v := (5 : Int32)) hx hb dX5_passDay_43 (by decide) ?_
      refine lv_icmp_ge (tgt := 60) hx hb dX5_passDay_44 (by decide) (fun c_6 => ?_) (fun c_6 => ?_)
      · have hf := hf.1 c_6
        exact k_60 x2 s0 s1 H locs ls hf hP hD hS (lv_sub hl [0, 1, 2] rfl)
      · have hf := hf.2 c_6
        refine lv_aload_n hx hb dX5_passDay_47 rfl (lv_at hl 0 rfl) ?_
        have hPc : va_P D classes (wW cI cZ q0 s0) H := hP.sub [0, 1, 2, 3, 4] rfl
        have hDc : va_D A (wW cI cZ q0 s0) := hD.sub [0, 1, 2, 3, 4] (by decide) rfl
        have hFc := va_free (wc := (wW cI cZ q0 s0)) hD hS hA [0, 1, 2, 3, 4] rfl
        refine va_calli (va_runV (As := []) (rest := []) ⟨hx, hb, hml, hown, hts⟩ (c_X5_joinFirstPair l D cI cZ cW q0 H.size s0 _ hf) ⟨callB_of 0 hts (gA tw_407) rfl rfl rfl (ht _ tw_4) (ht _ tw_404) hd_X5_joinFirstPair ⟨Nat.le_of_ble_eq_true rfl, Nat.le_of_ble_eq_true rfl⟩, ht _ tw_406, ht _ twp_11⟩ ⟨PW_blind, va_recv hK hP (ci := 3) (q0 := 0) rfl rfl, fun U hU hW => PW_mk hPc hDc hK hU hW⟩ rfl rfl hl.1 rfl (lv_room (Nat.le_of_ble_eq_true rfl)) dX5_passDay_48 ⟨Nat.zero_le _, Nat.zero_le _⟩) hS (fun q _ h => hFc q h) hFc (fun r_8 u t H1 locs ht1 hvm hf hB hz1 hk1 hS => ?_)
        obtain ⟨s0_7, rfl⟩ : ∃ z, z = u := ⟨_, rfl⟩
        rw [ht1] at hB
        obtain ⟨hP, hD⟩ := cj [0, 1, 2, 3, 4] (wW cI cZ q0 s0) (wW cI cZ q0 s0_7) hP hD rfl rfl hk1 hB
        generalize H1 = H at hP hS ⊢
        have hP : va_P D classes (wW cI cZ q0 s0_7 ++ wD cI cZ q1 s1) H := hP
        have hD : va_D A (wW cI cZ q0 s0_7 ++ wD cI cZ q1 s1) := hD
        refine lv_if_eq (tgt := 60) hx hb dX5_passDay_51 (by decide) (fun c_9 => ?_) (fun c_9 => ?_)
        · have hf := hf.1 c_9
          exact k_60 x2 s0_7 s1 H locs ls hf hP hD hS (lv_sub hl [0, 1, 2] rfl)
        · have hf := hf.2 c_9
          obtain ⟨x2_10, ex2_10⟩ : ∃ y : Int32, y = x2 + (1 : Int32) := ⟨_, rfl⟩
          have hf := hf x2_10 ex2_10
          refine lv_iinc (v := x2_10) (lv' := [(2, .int x2_10), (0, .ref (q0 0)), (1, .ref (q1 0))]) hx hb dX5_passDay_54 hl (k := 2) rfl (by rw [ex2_10]; rfl) (by decide) rfl (fun ls hl => ?_)
          refine lv_goto (tgt := 42) hx hb dX5_passDay_57 (by decide) ?_
          exact hG_42 x2_10 s0_7 s1 H locs ls hf hP hD hS (lv_sub hl [1, 2, 0] rfl)
    exact main_42 n0_42 x2 s0 s1 H locs ls hI0_42 hP hD hS hl
  have k_2 : ∀ (x2 : Int32) (s0 : CS) (s1 : CS) (H : Heap) (locs : List Loc) (ls : Array Slot), B_X5_passDay_2  x2 s0 s1 Q → va_P D classes (wW cI cZ q0 s0 ++ wD cI cZ q1 s1) H → va_D A (wW cI cZ q0 s0 ++ wD cI cZ q1 s1) → va_S A s.heap H locs → lv_has ls 5 [(0, .ref (q0 0)), (1, .ref (q1 0)), (2, .int x2)] → W p l e (headSpec (wsA yX5_passDay cX5_passDay 5 (some .int)) ({ frames := 4, cells := 0, slots := 0, locals := 91 })).room s m (#[.ref (q0 0), .ref (q1 0)] : Array Value) below meth c H locs 0 0 (MQ below (va_Qi (fun (r : Int32) (u : CS × CS) => Q r u.1 u.2) (fun u t => va_P D classes (wW cI cZ q0 u.1 ++ wD cI cZ q1 u.2) t.heap) A) (#[.ref (q0 0), .ref (q1 0)] : Array Value) s 0 0 A) (F0 m 2 ls []) := by
    intro x2 s0 s1 H locs ls hf hP hD hS hl
    unfold B_X5_passDay_2 at hf
    obtain ⟨I_2, ⟨n0_2, hI0_2⟩, hst_2⟩ := hf
    have main_2 : ∀ (n : Nat) (x2 : Int32) (s0 : CS) (s1 : CS) (H : Heap) (locs : List Loc) (ls : Array Slot), I_2 n (x2, s0, s1) → va_P D classes (wW cI cZ q0 s0 ++ wD cI cZ q1 s1) H → va_D A (wW cI cZ q0 s0 ++ wD cI cZ q1 s1) → va_S A s.heap H locs → lv_has ls 5 [(0, .ref (q0 0)), (1, .ref (q1 0)), (2, .int x2)] → W p l e (headSpec (wsA yX5_passDay cX5_passDay 5 (some .int)) ({ frames := 4, cells := 0, slots := 0, locals := 91 })).room s m (#[.ref (q0 0), .ref (q1 0)] : Array Value) below meth c H locs 0 0 (MQ below (va_Qi (fun (r : Int32) (u : CS × CS) => Q r u.1 u.2) (fun u t => va_P D classes (wW cI cZ q0 u.1 ++ wD cI cZ q1 u.2) t.heap) A) (#[.ref (q0 0), .ref (q1 0)] : Array Value) s 0 0 A) (F0 m 2 ls []) := by
      intro n
      induction n using Nat.strongRecOn with
      | _ n_2 ih_2 =>
      intro x2 s0 s1 H locs ls hI hP hD hS hl
      have hf : LB_X5_passDay_2 (fun z => ∃ k, k < n_2 ∧ I_2 k z)  x2 s0 s1 Q := hst_2 n_2 (x2, s0, s1) hI
      have hG_2 : ∀ (x2 : Int32) (s0 : CS) (s1 : CS) (H : Heap) (locs : List Loc) (ls : Array Slot), (∃ k, k < n_2 ∧ I_2 k (x2, s0, s1)) → va_P D classes (wW cI cZ q0 s0 ++ wD cI cZ q1 s1) H → va_D A (wW cI cZ q0 s0 ++ wD cI cZ q1 s1) → va_S A s.heap H locs → lv_has ls 5 [(0, .ref (q0 0)), (1, .ref (q1 0)), (2, .int x2)] → W p l e (headSpec (wsA yX5_passDay cX5_passDay 5 (some .int)) ({ frames := 4, cells := 0, slots := 0, locals := 91 })).room s m (#[.ref (q0 0), .ref (q1 0)] : Array Value) below meth c H locs 0 0 (MQ below (va_Qi (fun (r : Int32) (u : CS × CS) => Q r u.1 u.2) (fun u t => va_P D classes (wW cI cZ q0 u.1 ++ wD cI cZ q1 u.2) t.heap) A) (#[.ref (q0 0), .ref (q1 0)] : Array Value) s 0 0 A) (F0 m 2 ls []) := by
        rintro x2 s0 s1 H locs ls ⟨k, hk, hI⟩ hP hD hS hl
        exact ih_2 k hk x2 s0 s1 H locs ls hI hP hD hS hl
      unfold LB_X5_passDay_2 at hf
      have k_16 : ∀ (x2 : Int32) (x3 : Int32) (x4 : Int32) (s0 : CS) (s1 : CS) (H : Heap) (locs : List Loc) (ls : Array Slot), B_X5_passDay_16 (fun z => ∃ k, k < n_2 ∧ I_2 k z)  x2 x3 x4 s0 s1 Q → va_P D classes (wW cI cZ q0 s0 ++ wD cI cZ q1 s1) H → va_D A (wW cI cZ q0 s0 ++ wD cI cZ q1 s1) → va_S A s.heap H locs → lv_has ls 5 [(0, .ref (q0 0)), (1, .ref (q1 0)), (2, .int x2), (3, .int x3), (4, .int x4)] → W p l e (headSpec (wsA yX5_passDay cX5_passDay 5 (some .int)) ({ frames := 4, cells := 0, slots := 0, locals := 91 })).room s m (#[.ref (q0 0), .ref (q1 0)] : Array Value) below meth c H locs 0 0 (MQ below (va_Qi (fun (r : Int32) (u : CS × CS) => Q r u.1 u.2) (fun u t => va_P D classes (wW cI cZ q0 u.1 ++ wD cI cZ q1 u.2) t.heap) A) (#[.ref (q0 0), .ref (q1 0)] : Array Value) s 0 0 A) (F0 m 16 ls []) := by
        intro x2 x3 x4 s0 s1 H locs ls hf hP hD hS hl
        unfold B_X5_passDay_16 at hf
        obtain ⟨I_16, ⟨n0_16, hI0_16⟩, hst_16⟩ := hf
        have main_16 : ∀ (n : Nat) (x2 : Int32) (x3 : Int32) (x4 : Int32) (s0 : CS) (s1 : CS) (H : Heap) (locs : List Loc) (ls : Array Slot), I_16 n (x2, x3, x4, s0, s1) → va_P D classes (wW cI cZ q0 s0 ++ wD cI cZ q1 s1) H → va_D A (wW cI cZ q0 s0 ++ wD cI cZ q1 s1) → va_S A s.heap H locs → lv_has ls 5 [(0, .ref (q0 0)), (1, .ref (q1 0)), (2, .int x2), (3, .int x3), (4, .int x4)] → W p l e (headSpec (wsA yX5_passDay cX5_passDay 5 (some .int)) ({ frames := 4, cells := 0, slots := 0, locals := 91 })).room s m (#[.ref (q0 0), .ref (q1 0)] : Array Value) below meth c H locs 0 0 (MQ below (va_Qi (fun (r : Int32) (u : CS × CS) => Q r u.1 u.2) (fun u t => va_P D classes (wW cI cZ q0 u.1 ++ wD cI cZ q1 u.2) t.heap) A) (#[.ref (q0 0), .ref (q1 0)] : Array Value) s 0 0 A) (F0 m 16 ls []) := by
          intro n
          induction n using Nat.strongRecOn with
          | _ n_16 ih_16 =>
          intro x2 x3 x4 s0 s1 H locs ls hI hP hD hS hl
          have hf : LB_X5_passDay_16 (fun z => ∃ k, k < n_16 ∧ I_16 k z) (fun z => ∃ k, k < n_2 ∧ I_2 k z)  x2 x3 x4 s0 s1 Q := hst_16 n_16 (x2, x3, x4, s0, s1) hI
          have hG_16 : ∀ (x2 : Int32) (x3 : Int32) (x4 : Int32) (s0 : CS) (s1 : CS) (H : Heap) (locs : List Loc) (ls : Array Slot), (∃ k, k < n_16 ∧ I_16 k (x2, x3, x4, s0, s1)) → va_P D classes (wW cI cZ q0 s0 ++ wD cI cZ q1 s1) H → va_D A (wW cI cZ q0 s0 ++ wD cI cZ q1 s1) → va_S A s.heap H locs → lv_has ls 5 [(0, .ref (q0 0)), (1, .ref (q1 0)), (2, .int x2), (3, .int x3), (4, .int x4)] → W p l e (headSpec (wsA yX5_passDay cX5_passDay 5 (some .int)) ({ frames := 4, cells := 0, slots := 0, locals := 91 })).room s m (#[.ref (q0 0), .ref (q1 0)] : Array Value) below meth c H locs 0 0 (MQ below (va_Qi (fun (r : Int32) (u : CS × CS) => Q r u.1 u.2) (fun u t => va_P D classes (wW cI cZ q0 u.1 ++ wD cI cZ q1 u.2) t.heap) A) (#[.ref (q0 0), .ref (q1 0)] : Array Value) s 0 0 A) (F0 m 16 ls []) := by
            rintro x2 x3 x4 s0 s1 H locs ls ⟨k, hk, hI⟩ hP hD hS hl
            exact ih_16 k hk x2 x3 x4 s0 s1 H locs ls hI hP hD hS hl
          unfold LB_X5_passDay_16 at hf
          refine lv_iload hx hb dX5_passDay_16 (lv_at hl 4 rfl) ?_
          refine lv_iload_n hx hb dX5_passDay_18 rfl (lv_at hl 3 rfl) ?_
          refine lv_icmp_ge (tgt := 34) hx hb dX5_passDay_19 (by decide) (fun c_11 => ?_) (fun c_11 => ?_)
          · have hf := hf.1 c_11
            obtain ⟨x2_12, ex2_12⟩ : ∃ y : Int32, y = x2 + (1 : Int32) := ⟨_, rfl⟩
            have hf := hf x2_12 ex2_12
            refine lv_iinc (v := x2_12) (lv' := [(2, .int x2_12), (0, .ref (q0 0)), (1, .ref (q1 0)), (3, .int x3), (4, .int x4)]) hx hb dX5_passDay_34 hl (k := 2) rfl (by rw [ex2_12]; rfl) (by decide) rfl (fun ls hl => ?_)
            refine lv_goto (tgt := 2) hx hb dX5_passDay_37 (by decide) ?_
            exact hG_2 x2_12 s0 s1 H locs ls hf hP hD hS (lv_sub hl [1, 2, 0] rfl)
          · have hf := hf.2 c_11
            refine lv_aload_n hx hb dX5_passDay_22 rfl (lv_at hl 0 rfl) ?_
            refine lv_aload_n hx hb dX5_passDay_23 rfl (lv_at hl 1 rfl) ?_
            refine lv_iload_n hx hb dX5_passDay_24 rfl (lv_at hl 2 rfl) ?_
            have hPc : va_P D classes (wW cI cZ q0 s0 ++ wD cI cZ q1 s1) H := hP
            have hDc : va_D A (wW cI cZ q0 s0 ++ wD cI cZ q1 s1) := hD
            have hFc := va_free (wc := (wW cI cZ q0 s0 ++ wD cI cZ q1 s1)) hD hS hA [0, 1, 2, 3, 4, 5, 6, 7, 8, 9, 10] rfl
            refine va_callv (va_runV (As := [.ref (q1 0), .int x2]) (rest := []) ⟨hx, hb, hml, hown, hts⟩ (c_X5_takeLeast l D cI cZ cW q0 q1 H.size x2 s0 s1 _ hf) ⟨callB_of 2 hts (gA tw_378) rfl rfl rfl (ht _ tw_4) (ht _ tw_375) hd_X5_takeLeast ⟨Nat.le_of_ble_eq_true rfl, Nat.le_of_ble_eq_true rfl⟩, ht _ tw_377, ht _ twp_9⟩ ⟨PW_blind, va_recv hK hP (ci := 3) (q0 := 0) rfl rfl, fun U hU hW => PW_mk hPc hDc hK hU hW⟩ rfl rfl hl.1 rfl (lv_room (Nat.le_of_ble_eq_true rfl)) dX5_passDay_25 ⟨Nat.zero_le _, Nat.zero_le _⟩) hS (fun q _ h => hFc q h) hFc (fun u t H1 locs ht1 hvm hf hB hz1 hk1 hS => ?_)
            obtain ⟨s0_13, s1_14⟩ := u
            dsimp only at hf hB
            rw [ht1] at hB
            obtain ⟨hP, hD⟩ := cj [0, 1, 2, 3, 4, 5, 6, 7, 8, 9, 10] (wW cI cZ q0 s0 ++ wD cI cZ q1 s1) (wW cI cZ q0 s0_13 ++ wD cI cZ q1 s1_14) hP hD rfl rfl hk1 hB
            generalize H1 = H at hP hS ⊢
            have hP : va_P D classes (wW cI cZ q0 s0_13 ++ wD cI cZ q1 s1_14) H := hP
            have hD : va_D A (wW cI cZ q0 s0_13 ++ wD cI cZ q1 s1_14) := hD
            obtain ⟨x4_15, ex4_15⟩ : ∃ y : Int32, y = x4 + (1 : Int32) := ⟨_, rfl⟩
            have hf := hf x4_15 ex4_15
            refine lv_iinc (v := x4_15) (lv' := [(4, .int x4_15), (0, .ref (q0 0)), (1, .ref (q1 0)), (2, .int x2), (3, .int x3)]) hx hb dX5_passDay_28 hl (k := 4) rfl (by rw [ex4_15]; rfl) (by decide) rfl (fun ls hl => ?_)
            refine lv_goto (tgt := 16) hx hb dX5_passDay_31 (by decide) ?_
            exact hG_16 x2 x3 x4_15 s0_13 s1_14 H locs ls hf hP hD hS (lv_sub hl [1, 2, 3, 4, 0] rfl)
        exact main_16 n0_16 x2 x3 x4 s0 s1 H locs ls hI0_16 hP hD hS hl
      refine lv_iload_n hx hb dX5_passDay_2 rfl (lv_at hl 2 rfl) ?_
      refine lv_iconst (v := (5 : Int32)) hx hb dX5_passDay_3 (by decide) ?_
      refine lv_icmp_ge (tgt := 40) hx hb dX5_passDay_4 (by decide) (fun c_16 => ?_) (fun c_16 => ?_)
      · have hf := hf.1 c_16
        refine lv_iconst (v := (0 : Int32)) hx hb dX5_passDay_40 (by decide) ?_
        refine lv_istore_n (lv' := [(2, .int (0 : Int32)), (0, .ref (q0 0)), (1, .ref (q1 0))]) hx hb dX5_passDay_41 rfl hl (by decide) rfl (fun ls hl => ?_)
        exact k_42 (0 : Int32) s0 s1 H locs ls hf hP hD hS (lv_sub hl [1, 2, 0] rfl)
      · have hf := hf.2 c_16
        refine lv_aload_n hx hb dX5_passDay_7 rfl (lv_at hl 1 rfl) ?_
        refine lv_iload_n hx hb dX5_passDay_8 rfl (lv_at hl 2 rfl) ?_
        have hPc : va_P D classes (wD cI cZ q1 s1) H := hP.sub [5, 6, 7, 8, 9, 10] rfl
        refine vp_callSi (W.runV (As := [.int x2]) (rest := []) ⟨hx, hb, hml, hown, hts⟩ (c_X1_turnsOf l D cI cZ cW q1 x2 s1 _ hf) ⟨callB_of 1 hts (gA tw_373) rfl rfl rfl (ht _ tw_2) (ht _ tw_370) hd_X1_turnsOf ⟨Nat.le_of_ble_eq_true rfl, Nat.le_of_ble_eq_true rfl⟩, ht _ tw_371, ht _ tw_372⟩ ⟨PR_blind, va_recv hK hP (ci := 1) (q0 := 5) rfl rfl, fun U hU hW => PR_mk hPc hK hU hW⟩ rfl rfl hl.1 rfl (lv_room (Nat.le_of_ble_eq_true rfl)) dX5_passDay_9 ⟨Nat.zero_le _, Nat.zero_le _⟩) (fun r_17 hf => ?_)
        refine lv_istore_n (lv' := [(3, .int r_17), (0, .ref (q0 0)), (1, .ref (q1 0)), (2, .int x2)]) hx hb dX5_passDay_12 rfl hl (by decide) rfl (fun ls hl => ?_)
        refine lv_iconst (v := (0 : Int32)) hx hb dX5_passDay_13 (by decide) ?_
        refine lv_istore (lv' := [(4, .int (0 : Int32)), (3, .int r_17), (0, .ref (q0 0)), (1, .ref (q1 0)), (2, .int x2)]) hx hb dX5_passDay_14 hl (by decide) rfl (fun ls hl => ?_)
        exact k_16 x2 r_17 (0 : Int32) s0 s1 H locs ls hf hP hD hS (lv_sub hl [2, 3, 4, 1, 0] rfl)
    exact main_2 n0_2 x2 s0 s1 H locs ls hI0_2 hP hD hS hl
  have start : ∀ (H : Heap) (locs : List Loc), va_P D classes (wW cI cZ q0 s0 ++ wD cI cZ q1 s1) H → va_D A (wW cI cZ q0 s0 ++ wD cI cZ q1 s1) → va_S A s.heap H locs → W p l e (headSpec (wsA yX5_passDay cX5_passDay 5 (some .int)) ({ frames := 4, cells := 0, slots := 0, locals := 91 })).room s m (#[.ref (q0 0), .ref (q1 0)] : Array Value) below meth c H locs 0 0 (MQ below (va_Qi (fun (r : Int32) (u : CS × CS) => Q r u.1 u.2) (fun u t => va_P D classes (wW cI cZ q0 u.1 ++ wD cI cZ q1 u.2) t.heap) A) (#[.ref (q0 0), .ref (q1 0)] : Array Value) s 0 0 A) (F0 m 0 ls []) := by
    intro H locs hP hD hS
    refine lv_iconst (v := (0 : Int32)) hx hb dX5_passDay_0 (by decide) ?_
    refine lv_istore_n (lv' := [(2, .int (0 : Int32)), (0, .ref (q0 0)), (1, .ref (q1 0))]) hx hb dX5_passDay_1 rfl hl (by decide) rfl (fun ls hl => ?_)
    exact k_2 (0 : Int32) s0 s1 H locs ls hf hP hD hS (lv_sub hl [1, 2, 0] rfl)
  exact start s.heap [] hP hD hS
def wp_X5_refusalToEat (p1 : Int32) (p2 : Int32) (s0 : CS) (s1 : CS) (Q : Int32 → Prop) : Prop := wp_X1_hasOwner p1 s1 (fun r_1 => ((r_1 = 0 → Q (-1 : Int32)) ∧ (¬ r_1 = 0 → wp_X2_hasCell p2 (fun r_3 => ((¬ r_3 = 0 → wp_X2_bitOf p2 (fun r_5 => ((((s0.1 4) &&& r_5) = 0 → Q (0 : Int32)) ∧ (¬ ((s0.1 4) &&& r_5) = 0 → Q (-3 : Int32))))) ∧ (r_3 = 0 → Q (-1 : Int32)))))))
set_option maxHeartbeats 4000000 in
set_option maxRecDepth 100000 in
theorem c_X5_refusalToEat (l : Launch) (D : va_G) (cI cZ cW : ClassId) (q0 : Nat → Nat) (q1 : Nat → Nat) (p1 : Int32) (p2 : Int32) (s0 : CS) (s1 : CS) (Q : Int32 → Prop) (hf : wp_X5_refusalToEat p1 p2 s0 s1 Q) : Met l yX5_refusalToEat (wsA yX5_refusalToEat cX5_refusalToEat 4 (some .int)) ({ frames := 2, cells := 0, slots := 0, locals := 40 }) (PR D cI cZ cW [.ref (q0 0), .ref (q1 0), .int p1, .int p2] (wW cI cZ q0 s0 ++ wD cI cZ q1 s1)) (vp_Si Q) 0 0 (fun _ => False) := by
  refine Met.ofW (cc := cX5_refusalToEat) (maxL := 4) (ret := (some .int)) (by decide) rfl ?_
  intro p e s m args below meth c s₁ B hml hv
  obtain ⟨rfl, hP, hK⟩ := hv
  have hx := B.exec
  have hb := B.bytes
  have hr := B.returns
  have hts := atoms_spec (ws := (wsA yX5_refusalToEat cX5_refusalToEat 4 (some .int))) B.pre
  have ht : ∀ w ∈ lw_g, w.before _ s = true := fun w h => hts w (List.mem_cons_of_mem _ h)
  have hown : s.vm.findClass RX5 = some m.cls := findClass_of_methodNamed B.named
  have hlocks := B.notSynchronized
  have hl := lv_entry ([.ref (q0 0), .ref (q1 0), .int p1, .int p2]) (n := 4) (Nat.le_of_ble_eq_true rfl)
  rw [lg_entry_eq]
  generalize (lg_sl ([.ref (q0 0), .ref (q1 0), .int p1, .int p2]) ++ List.replicate (4 - (lg_sl ([.ref (q0 0), .ref (q1 0), .int p1, .int p2])).length) Slot.unset).toArray = ls at hl ⊢
  have hl : lv_has ls 4 [(0, .ref (q0 0)), (1, .ref (q1 0)), (2, .int p1), (3, .int p2)] := hl
  unfold wp_X5_refusalToEat at hf
  refine lv_aload_n hx hb dX5_refusalToEat_0 rfl (lv_at hl 1 rfl) ?_
  refine lv_iload_n hx hb dX5_refusalToEat_1 rfl (lv_at hl 2 rfl) ?_
  have hPc : va_P D classes (wD cI cZ q1 s1) s.heap := hP.sub [5, 6, 7, 8, 9, 10] rfl
  refine vp_callSi (W.runV (As := [.int p1]) (rest := []) ⟨hx, hb, hml, hown, hts⟩ (c_X1_hasOwner l D cI cZ cW q1 p1 s1 _ hf) ⟨callB_of 1 hts (gA tw_232) rfl rfl rfl (ht _ tw_2) (ht _ tw_302) hd_X1_hasOwner ⟨Nat.le_of_ble_eq_true rfl, Nat.le_of_ble_eq_true rfl⟩, ht _ tw_230, ht _ tw_231⟩ ⟨PR_blind, va_recv hK hP (ci := 1) (q0 := 5) rfl rfl, fun U hU hW => PR_mk hPc hK hU hW⟩ rfl rfl hl.1 rfl (lv_room (Nat.le_of_ble_eq_true rfl)) dX5_refusalToEat_2 ⟨Nat.zero_le _, Nat.zero_le _⟩) (fun r_1 hf => ?_)
  refine lv_if_eq (tgt := 15) hx hb dX5_refusalToEat_5 (by decide) (fun c_2 => ?_) (fun c_2 => ?_)
  · have hf := hf.1 c_2
    refine lv_iconst (v := (-1 : Int32)) hx hb dX5_refusalToEat_15 (by decide) ?_
    exact W.iret (v := (-1 : Int32)) hx hb hr (fun t ht hW => ⟨(-1 : Int32), rfl, hf, ht⟩) (fun q h => absurd h List.not_mem_nil) dX5_refusalToEat_16
  · have hf := hf.2 c_2
    refine lv_iload_n hx hb dX5_refusalToEat_8 rfl (lv_at hl 3 rfl) ?_
    have hPc : va_P D classes ([] : va_W) s.heap := hP.sub [] rfl
    refine vp_callSi (W.runS (As := [.int p2]) (rest := []) ⟨hx, hb, hml, hown, hts⟩ (c_X2_hasCell l D cI cZ cW  p2 _ hf) ⟨callB_of 1 hts (gA tw_245) rfl rfl rfl (ht _ tw_9) (ht _ tw_429) hd_X2_hasCell ⟨Nat.le_of_ble_eq_true rfl, Nat.le_of_ble_eq_true rfl⟩, ht _ tw_244⟩ ⟨PR_blind, fun U hU hW => PR_mk hPc hK hU hW⟩ rfl rfl hl.1 rfl (lv_room (Nat.le_of_ble_eq_true rfl)) dX5_refusalToEat_9 ⟨Nat.zero_le _, Nat.zero_le _⟩) (fun r_3 hf => ?_)
    refine lv_if_ne (tgt := 17) hx hb dX5_refusalToEat_12 (by decide) (fun c_4 => ?_) (fun c_4 => ?_)
    · have hf := hf.1 c_4
      refine lv_aload_n hx hb dX5_refusalToEat_17 rfl (lv_at hl 0 rfl) ?_
      refine va_get (D := D) (ci := 3) (v := .int (s0.1 4)) (C := RX5) (T := TX5) (N := 6) hx hb ht inX5 hown hK hP 0 rfl rfl 4 (by decide) (ht _ tw_98) (fun _ h9 => h9) rfl dX5_refusalToEat_18 ?_
      refine lv_iload_n hx hb dX5_refusalToEat_21 rfl (lv_at hl 3 rfl) ?_
      have hPc : va_P D classes ([] : va_W) s.heap := hP.sub [] rfl
      refine vp_callSi (W.runS (As := [.int p2]) (rest := [.int (s0.1 4)]) ⟨hx, hb, hml, hown, hts⟩ (c_X2_bitOf l D cI cZ cW  p2 _ hf) ⟨callB_of 1 hts (gA tw_248) rfl rfl rfl (ht _ tw_9) (ht _ tw_266) hd_X2_bitOf ⟨Nat.le_of_ble_eq_true rfl, Nat.le_of_ble_eq_true rfl⟩, ht _ tw_247⟩ ⟨PR_blind, fun U hU hW => PR_mk hPc hK hU hW⟩ rfl rfl hl.1 rfl (lv_room (Nat.le_of_ble_eq_true rfl)) dX5_refusalToEat_22 ⟨Nat.zero_le _, Nat.zero_le _⟩) (fun r_5 hf => ?_)
      refine lv_iand hx hb dX5_refusalToEat_25 ?_
      refine lv_if_eq (tgt := 34) hx hb dX5_refusalToEat_26 (by decide) (fun c_6 => ?_) (fun c_6 => ?_)
      · have hf := hf.1 c_6
        refine lv_iconst (v := (0 : Int32)) hx hb dX5_refusalToEat_34 (by decide) ?_
        exact W.iret (v := (0 : Int32)) hx hb hr (fun t ht hW => ⟨(0 : Int32), rfl, hf, ht⟩) (fun q h => absurd h List.not_mem_nil) dX5_refusalToEat_35
      · have hf := hf.2 c_6
        refine lv_bipush (v := (-3 : Int32)) hx hb dX5_refusalToEat_29 (by decide) ?_
        refine lv_goto (tgt := 35) hx hb dX5_refusalToEat_31 (by decide) ?_
        exact W.iret (v := (-3 : Int32)) hx hb hr (fun t ht hW => ⟨(-3 : Int32), rfl, hf, ht⟩) (fun q h => absurd h List.not_mem_nil) dX5_refusalToEat_35
    · have hf := hf.2 c_4
      refine lv_iconst (v := (-1 : Int32)) hx hb dX5_refusalToEat_15 (by decide) ?_
      exact W.iret (v := (-1 : Int32)) hx hb hr (fun t ht hW => ⟨(-1 : Int32), rfl, hf, ht⟩) (fun q h => absurd h List.not_mem_nil) dX5_refusalToEat_16
def B_X5_eatCell_93 (G57 : (Int32 × Int32 × Int32 × CS × CS) → Prop)  (x4 : Int32) (x5 : Int32) (x7 : Int32) (s0 : CS) (s1 : CS) (Q : Int32 → CS → CS → Prop) : Prop := ∀ x7_1 : Int32, x7_1 = x7 + (1 : Int32) → G57 (x4, x5, x7_1, s0, s1)
def LB_X5_eatCell_57 (G57 : (Int32 × Int32 × Int32 × CS × CS) → Prop)  (x4 : Int32) (x5 : Int32) (x7 : Int32) (s0 : CS) (s1 : CS) (Q : Int32 → CS → CS → Prop) : Prop := (((5 : Int32) ≤ x7 → ∀ s0_3 : CS, s0_3 = sI s0 4 ((s0.1 4) ||| x4) → Q x5 s0_3 s1) ∧ (¬ (5 : Int32) ≤ x7 → vp_in x7 5 ∧ vp_in x7 5 ∧ ∀ s0_6 : CS, s0_6 = sA s0 0 x7.toNatClampNeg (((s0.2.1 0) x7.toNatClampNeg) &&& (x4 ^^^ (-1 : Int32))) → vp_in x7 5 ∧ ((¬ ((s0_6.2.1 0) x7.toNatClampNeg) = 0 → B_X5_eatCell_93 G57  x4 x5 x7 s0_6 s1 Q) ∧ (((s0_6.2.1 0) x7.toNatClampNeg) = 0 → wp_X5_endOwning x7 s0_6 (fun s0_9 => B_X5_eatCell_93 G57  x4 x5 x7 s0_9 s1 Q)))))
def B_X5_eatCell_57  (x4 : Int32) (x5 : Int32) (x7 : Int32) (s0 : CS) (s1 : CS) (Q : Int32 → CS → CS → Prop) : Prop := LOOP (fun (G57 : (Int32 × Int32 × Int32 × CS × CS) → Prop) z => LB_X5_eatCell_57 G57  z.1 z.2.1 z.2.2.1 z.2.2.2.1 z.2.2.2.2 Q) (x4, x5, x7, s0, s1)
def B_X5_eatCell_54  (x4 : Int32) (x5 : Int32) (s0 : CS) (s1 : CS) (Q : Int32 → CS → CS → Prop) : Prop := B_X5_eatCell_57  x4 x5 (0 : Int32) s0 s1 Q
def B_X5_eatCell_39  (x2 : Int32) (x4 : Int32) (x5 : Int32) (t0 : Int32) (s0 : CS) (s1 : CS) (Q : Int32 → CS → CS → Prop) : Prop := ((¬ t0 = 0 → B_X5_eatCell_54  x4 x5 s0 s1 Q) ∧ (t0 = 0 → wp_X5_pay x2 x5 (1 : Int32) s0 (fun s0_11 => B_X5_eatCell_54  x4 x5 s0_11 s1 Q)))
def B_X5_eatCell_38  (x2 : Int32) (x4 : Int32) (x5 : Int32) (s0 : CS) (s1 : CS) (Q : Int32 → CS → CS → Prop) : Prop := B_X5_eatCell_39  x2 x4 x5 (0 : Int32) s0 s1 Q
def wp_X5_eatCell (p1 : Int32) (p2 : Int32) (s0 : CS) (s1 : CS) (Q : Int32 → CS → CS → Prop) : Prop := wp_X2_bitOf p2 (fun r_12 => wp_X5_ownerAt p2 s0 s1 (fun r_13 => wp_X5_stuffAt p2 s0 (fun r_14 => ((¬ r_14 = 0 → B_X5_eatCell_38  p1 r_12 r_13 s0 s1 Q) ∧ (r_14 = 0 → wp_X3_get p1 4 (s1.2.1 2) (fun r_16 => ((¬ r_16 = (2 : Int32) → B_X5_eatCell_38  p1 r_12 r_13 s0 s1 Q) ∧ (r_16 = (2 : Int32) → B_X5_eatCell_39  p1 r_12 r_13 (1 : Int32) s0 s1 Q))))))))
set_option maxHeartbeats 4000000 in
set_option maxRecDepth 100000 in
theorem c_X5_eatCell (l : Launch) (D : va_G) (cI cZ cW : ClassId) (q0 : Nat → Nat) (q1 : Nat → Nat) (sz : Nat) (p1 : Int32) (p2 : Int32) (s0 : CS) (s1 : CS) (Q : Int32 → CS → CS → Prop) (hf : wp_X5_eatCell p1 p2 s0 s1 Q) : Met l yX5_eatCell (wsA yX5_eatCell cX5_eatCell 8 (some .int)) ({ frames := 4, cells := 0, slots := 0, locals := 87 }) (PW D cI cZ cW [.ref (q0 0), .ref (q1 0), .int p1, .int p2] (wW cI cZ q0 s0 ++ wD cI cZ q1 s1) sz) (va_Qi (fun (r : Int32) (u : CS × CS) => Q r u.1 u.2) (fun u t => va_P D classes (wW cI cZ q0 u.1 ++ wD cI cZ q1 u.2) t.heap) (va_A (wW cI cZ q0 s0 ++ wD cI cZ q1 s1) sz)) 0 0 (va_A (wW cI cZ q0 s0 ++ wD cI cZ q1 s1) sz) := by
  refine Met.ofW (cc := cX5_eatCell) (maxL := 8) (ret := (some .int)) (by decide) rfl ?_
  intro p e s m args below meth c s₁ B hml hv
  obtain ⟨rfl, hsz, hP, hK, hD0⟩ := hv
  have hx := B.exec
  have hb := B.bytes
  have hr := B.returns
  have hts := atoms_spec (ws := (wsA yX5_eatCell cX5_eatCell 8 (some .int))) B.pre
  have ht : ∀ w ∈ lw_g, w.before _ s = true := fun w h => hts w (List.mem_cons_of_mem _ h)
  have hown : s.vm.findClass RX5 = some m.cls := findClass_of_methodNamed B.named
  have hlocks := B.notSynchronized
  subst hsz
  have hD := hD0.self (sz := s.heap.size)
  generalize hAe : va_A (wW cI cZ q0 s0 ++ wD cI cZ q1 s1) s.heap.size = A at hD ⊢
  have hA : ∀ q : Nat, s.heap.size ≤ q → A q := fun q h => by rw [← hAe]; exact Or.inr h
  have hS : va_S A s.heap s.heap [] := va_S.rf
  have hl := lv_entry ([.ref (q0 0), .ref (q1 0), .int p1, .int p2]) (n := 8) (Nat.le_of_ble_eq_true rfl)
  rw [lg_entry_eq]
  generalize (lg_sl ([.ref (q0 0), .ref (q1 0), .int p1, .int p2]) ++ List.replicate (8 - (lg_sl ([.ref (q0 0), .ref (q1 0), .int p1, .int p2])).length) Slot.unset).toArray = ls at hl ⊢
  have hl : lv_has ls 8 [(0, .ref (q0 0)), (1, .ref (q1 0)), (2, .int p1), (3, .int p2)] := hl
  unfold wp_X5_eatCell at hf
  have k_57 : ∀ (x4 : Int32) (x5 : Int32) (x7 : Int32) (s0 : CS) (s1 : CS) (H : Heap) (locs : List Loc) (ls : Array Slot), B_X5_eatCell_57  x4 x5 x7 s0 s1 Q → va_P D classes (wW cI cZ q0 s0 ++ wD cI cZ q1 s1) H → va_D A (wW cI cZ q0 s0 ++ wD cI cZ q1 s1) → va_S A s.heap H locs → lv_has ls 8 [(0, .ref (q0 0)), (4, .int x4), (5, .int x5), (7, .int x7)] → W p l e (headSpec (wsA yX5_eatCell cX5_eatCell 8 (some .int)) ({ frames := 4, cells := 0, slots := 0, locals := 87 })).room s m (#[.ref (q0 0), .ref (q1 0), .int p1, .int p2] : Array Value) below meth c H locs 0 0 (MQ below (va_Qi (fun (r : Int32) (u : CS × CS) => Q r u.1 u.2) (fun u t => va_P D classes (wW cI cZ q0 u.1 ++ wD cI cZ q1 u.2) t.heap) A) (#[.ref (q0 0), .ref (q1 0), .int p1, .int p2] : Array Value) s 0 0 A) (F0 m 57 ls []) := by
    intro x4 x5 x7 s0 s1 H locs ls hf hP hD hS hl
    unfold B_X5_eatCell_57 at hf
    obtain ⟨I_57, ⟨n0_57, hI0_57⟩, hst_57⟩ := hf
    have main_57 : ∀ (n : Nat) (x4 : Int32) (x5 : Int32) (x7 : Int32) (s0 : CS) (s1 : CS) (H : Heap) (locs : List Loc) (ls : Array Slot), I_57 n (x4, x5, x7, s0, s1) → va_P D classes (wW cI cZ q0 s0 ++ wD cI cZ q1 s1) H → va_D A (wW cI cZ q0 s0 ++ wD cI cZ q1 s1) → va_S A s.heap H locs → lv_has ls 8 [(0, .ref (q0 0)), (4, .int x4), (5, .int x5), (7, .int x7)] → W p l e (headSpec (wsA yX5_eatCell cX5_eatCell 8 (some .int)) ({ frames := 4, cells := 0, slots := 0, locals := 87 })).room s m (#[.ref (q0 0), .ref (q1 0), .int p1, .int p2] : Array Value) below meth c H locs 0 0 (MQ below (va_Qi (fun (r : Int32) (u : CS × CS) => Q r u.1 u.2) (fun u t => va_P D classes (wW cI cZ q0 u.1 ++ wD cI cZ q1 u.2) t.heap) A) (#[.ref (q0 0), .ref (q1 0), .int p1, .int p2] : Array Value) s 0 0 A) (F0 m 57 ls []) := by
      intro n
      induction n using Nat.strongRecOn with
      | _ n_57 ih_57 =>
      intro x4 x5 x7 s0 s1 H locs ls hI hP hD hS hl
      have hf : LB_X5_eatCell_57 (fun z => ∃ k, k < n_57 ∧ I_57 k z)  x4 x5 x7 s0 s1 Q := hst_57 n_57 (x4, x5, x7, s0, s1) hI
      have hG_57 : ∀ (x4 : Int32) (x5 : Int32) (x7 : Int32) (s0 : CS) (s1 : CS) (H : Heap) (locs : List Loc) (ls : Array Slot), (∃ k, k < n_57 ∧ I_57 k (x4, x5, x7, s0, s1)) → va_P D classes (wW cI cZ q0 s0 ++ wD cI cZ q1 s1) H → va_D A (wW cI cZ q0 s0 ++ wD cI cZ q1 s1) → va_S A s.heap H locs → lv_has ls 8 [(0, .ref (q0 0)), (4, .int x4), (5, .int x5), (7, .int x7)] → W p l e (headSpec (wsA yX5_eatCell cX5_eatCell 8 (some .int)) ({ frames := 4, cells := 0, slots := 0, locals := 87 })).room s m (#[.ref (q0 0), .ref (q1 0), .int p1, .int p2] : Array Value) below meth c H locs 0 0 (MQ below (va_Qi (fun (r : Int32) (u : CS × CS) => Q r u.1 u.2) (fun u t => va_P D classes (wW cI cZ q0 u.1 ++ wD cI cZ q1 u.2) t.heap) A) (#[.ref (q0 0), .ref (q1 0), .int p1, .int p2] : Array Value) s 0 0 A) (F0 m 57 ls []) := by
        rintro x4 x5 x7 s0 s1 H locs ls ⟨k, hk, hI⟩ hP hD hS hl
        exact ih_57 k hk x4 x5 x7 s0 s1 H locs ls hI hP hD hS hl
      unfold LB_X5_eatCell_57 at hf
      have k_93 : ∀ (x4 : Int32) (x5 : Int32) (x7 : Int32) (s0 : CS) (s1 : CS) (H : Heap) (locs : List Loc) (ls : Array Slot), B_X5_eatCell_93 (fun z => ∃ k, k < n_57 ∧ I_57 k z)  x4 x5 x7 s0 s1 Q → va_P D classes (wW cI cZ q0 s0 ++ wD cI cZ q1 s1) H → va_D A (wW cI cZ q0 s0 ++ wD cI cZ q1 s1) → va_S A s.heap H locs → lv_has ls 8 [(0, .ref (q0 0)), (4, .int x4), (5, .int x5), (7, .int x7)] → W p l e (headSpec (wsA yX5_eatCell cX5_eatCell 8 (some .int)) ({ frames := 4, cells := 0, slots := 0, locals := 87 })).room s m (#[.ref (q0 0), .ref (q1 0), .int p1, .int p2] : Array Value) below meth c H locs 0 0 (MQ below (va_Qi (fun (r : Int32) (u : CS × CS) => Q r u.1 u.2) (fun u t => va_P D classes (wW cI cZ q0 u.1 ++ wD cI cZ q1 u.2) t.heap) A) (#[.ref (q0 0), .ref (q1 0), .int p1, .int p2] : Array Value) s 0 0 A) (F0 m 93 ls []) := by
        intro x4 x5 x7 s0 s1 H locs ls hf hP hD hS hl
        unfold B_X5_eatCell_93 at hf
        obtain ⟨x7_1, ex7_1⟩ : ∃ y : Int32, y = x7 + (1 : Int32) := ⟨_, rfl⟩
        have hf := hf x7_1 ex7_1
        refine lv_iinc (v := x7_1) (lv' := [(7, .int x7_1), (0, .ref (q0 0)), (4, .int x4), (5, .int x5)]) hx hb dX5_eatCell_93 hl (k := 3) rfl (by rw [ex7_1]; rfl) (by decide) rfl (fun ls hl => ?_)
        refine lv_goto (tgt := 57) hx hb dX5_eatCell_96 (by decide) ?_
        exact hG_57 x4 x5 x7_1 s0 s1 H locs ls hf hP hD hS (lv_sub hl [1, 2, 3, 0] rfl)
      refine lv_iload hx hb dX5_eatCell_57 (lv_at hl 3 rfl) ?_
      refine lv_iconst (v := (5 : Int32)) hx hb dX5_eatCell_59 (by decide) ?_
      refine lv_icmp_ge (tgt := 99) hx hb dX5_eatCell_60 (by decide) (fun c_2 => ?_) (fun c_2 => ?_)
      · have hf := hf.1 c_2
        refine lv_aload_n hx hb dX5_eatCell_99 rfl (lv_at hl 0 rfl) ?_
        refine lv_dup hx hb dX5_eatCell_100 rfl ?_
        refine va_get (D := D) (ci := 3) (v := .int (s0.1 4)) (C := RX5) (T := TX5) (N := 6) hx hb ht inX5 hown hK hP 0 rfl rfl 4 (by decide) (ht _ tw_98) (fun _ h9 => h9) rfl dX5_eatCell_101 ?_
        refine lv_iload hx hb dX5_eatCell_104 (lv_at hl 1 rfl) ?_
        refine lv_ior hx hb dX5_eatCell_106 ?_
        refine va_put (D := D) (ci := 3) (v := .int ((s0.1 4) ||| x4)) (ty := .int) (C := RX5) (T := TX5) (N := 6) hx hb ht inX5 tyX5 tyX5_ok nmX5 hown hK hP hD hS 0 rfl rfl 4 (by decide) (ht _ tw_98) (fun _ h9 => h9) rfl pf_I rfl rfl (Nat.le_of_ble_eq_true rfl) dX5_eatCell_107 (fun H locs hP hD hS => ?_)
        obtain ⟨s0_3, es0_3⟩ : ∃ y : CS, y = sI s0 4 ((s0.1 4) ||| x4) := ⟨_, rfl⟩
        have hf := hf s0_3 es0_3
        have hP : va_P D classes (wW cI cZ q0 s0_3 ++ wD cI cZ q1 s1) H := by rw [es0_3]; exact hP
        have hD : va_D A (wW cI cZ q0 s0_3 ++ wD cI cZ q1 s1) := by rw [es0_3]; exact hD
        refine lv_iload hx hb dX5_eatCell_110 (lv_at hl 2 rfl) ?_
        exact W.iret (v := x5) hx hb hr (fun t ht hW => ⟨⟨x5, (s0_3, s1), rfl, hf, P_heap ht hP⟩, hS.F ht⟩) hS.2.2 dX5_eatCell_112
      · have hf := hf.2 c_2
        refine lv_aload_n hx hb dX5_eatCell_63 rfl (lv_at hl 0 rfl) ?_
        refine va_get (D := D) (ci := 3) (v := .ref (q0 1)) (C := RX5) (T := TX5) (N := 6) hx hb ht inX5 hown hK hP 0 rfl rfl 0 (by decide) (ht _ tw_91) (fun _ h9 => h9) rfl dX5_eatCell_64 ?_
        refine lv_iload hx hb dX5_eatCell_67 (lv_at hl 3 rfl) ?_
        refine lv_dup2_11 hx hb dX5_eatCell_69 rfl rfl ?_
        obtain ⟨hi_4, hf⟩ := hf
        refine va_iald hx hb hK hP 1 0 rfl rfl hi_4 dX5_eatCell_70 ?_
        refine lv_iload hx hb dX5_eatCell_71 (lv_at hl 1 rfl) ?_
        refine lv_iconst (v := (-1 : Int32)) hx hb dX5_eatCell_73 (by decide) ?_
        refine lv_ixor hx hb dX5_eatCell_74 ?_
        refine lv_iand hx hb dX5_eatCell_75 ?_
        obtain ⟨hi_5, hf⟩ := hf
        refine va_iast hx hb hK hP hD hS 1 0 rfl rfl hi_5 dX5_eatCell_76 (fun H locs hP hD hS => ?_)
        obtain ⟨s0_6, es0_6⟩ : ∃ y : CS, y = sA s0 0 x7.toNatClampNeg (((s0.2.1 0) x7.toNatClampNeg) &&& (x4 ^^^ (-1 : Int32))) := ⟨_, rfl⟩
        have hf := hf s0_6 es0_6
        have hP : va_P D classes (wW cI cZ q0 s0_6 ++ wD cI cZ q1 s1) H := by rw [es0_6]; exact hP
        have hD : va_D A (wW cI cZ q0 s0_6 ++ wD cI cZ q1 s1) := by rw [es0_6]; exact hD
        refine lv_aload_n hx hb dX5_eatCell_77 rfl (lv_at hl 0 rfl) ?_
        refine va_get (D := D) (ci := 3) (v := .ref (q0 1)) (C := RX5) (T := TX5) (N := 6) hx hb ht inX5 hown hK hP 0 rfl rfl 0 (by decide) (ht _ tw_91) (fun _ h9 => h9) rfl dX5_eatCell_78 ?_
        refine lv_iload hx hb dX5_eatCell_81 (lv_at hl 3 rfl) ?_
        obtain ⟨hi_7, hf⟩ := hf
        refine va_iald hx hb hK hP 1 0 rfl rfl hi_7 dX5_eatCell_83 ?_
        refine lv_if_ne (tgt := 93) hx hb dX5_eatCell_84 (by decide) (fun c_8 => ?_) (fun c_8 => ?_)
        · have hf := hf.1 c_8
          exact k_93 x4 x5 x7 s0_6 s1 H locs ls hf hP hD hS (lv_sub hl [0, 1, 2, 3] rfl)
        · have hf := hf.2 c_8
          refine lv_aload_n hx hb dX5_eatCell_87 rfl (lv_at hl 0 rfl) ?_
          refine lv_iload hx hb dX5_eatCell_88 (lv_at hl 3 rfl) ?_
          have hPc : va_P D classes (wW cI cZ q0 s0_6) H := hP.sub [0, 1, 2, 3, 4] rfl
          have hDc : va_D A (wW cI cZ q0 s0_6) := hD.sub [0, 1, 2, 3, 4] (by decide) rfl
          have hFc := va_free (wc := (wW cI cZ q0 s0_6)) hD hS hA [0, 1, 2, 3, 4] rfl
          refine va_callv (va_runV (As := [.int x7]) (rest := []) ⟨hx, hb, hml, hown, hts⟩ (c_X5_endOwning l D cI cZ cW q0 H.size x7 s0_6 _ hf) ⟨callB_of 1 hts (gA tw_416) rfl rfl rfl (ht _ tw_4) (ht _ tw_413) hd_X5_endOwning ⟨Nat.le_of_ble_eq_true rfl, Nat.le_of_ble_eq_true rfl⟩, ht _ tw_415, ht _ twp_13⟩ ⟨PW_blind, va_recv hK hP (ci := 3) (q0 := 0) rfl rfl, fun U hU hW => PW_mk hPc hDc hK hU hW⟩ rfl rfl hl.1 rfl (lv_room (Nat.le_of_ble_eq_true rfl)) dX5_eatCell_90 ⟨Nat.zero_le _, Nat.zero_le _⟩) hS (fun q _ h => hFc q h) hFc (fun u t H1 locs ht1 hvm hf hB hz1 hk1 hS => ?_)
          obtain ⟨s0_9, rfl⟩ : ∃ z, z = u := ⟨_, rfl⟩
          rw [ht1] at hB
          obtain ⟨hP, hD⟩ := cj [0, 1, 2, 3, 4] (wW cI cZ q0 s0_6) (wW cI cZ q0 s0_9) hP hD rfl rfl hk1 hB
          generalize H1 = H at hP hS ⊢
          have hP : va_P D classes (wW cI cZ q0 s0_9 ++ wD cI cZ q1 s1) H := hP
          have hD : va_D A (wW cI cZ q0 s0_9 ++ wD cI cZ q1 s1) := hD
          exact k_93 x4 x5 x7 s0_9 s1 H locs ls hf hP hD hS (lv_sub hl [0, 1, 2, 3] rfl)
    exact main_57 n0_57 x4 x5 x7 s0 s1 H locs ls hI0_57 hP hD hS hl
  have k_54 : ∀ (x4 : Int32) (x5 : Int32) (s0 : CS) (s1 : CS) (H : Heap) (locs : List Loc) (ls : Array Slot), B_X5_eatCell_54  x4 x5 s0 s1 Q → va_P D classes (wW cI cZ q0 s0 ++ wD cI cZ q1 s1) H → va_D A (wW cI cZ q0 s0 ++ wD cI cZ q1 s1) → va_S A s.heap H locs → lv_has ls 8 [(0, .ref (q0 0)), (4, .int x4), (5, .int x5)] → W p l e (headSpec (wsA yX5_eatCell cX5_eatCell 8 (some .int)) ({ frames := 4, cells := 0, slots := 0, locals := 87 })).room s m (#[.ref (q0 0), .ref (q1 0), .int p1, .int p2] : Array Value) below meth c H locs 0 0 (MQ below (va_Qi (fun (r : Int32) (u : CS × CS) => Q r u.1 u.2) (fun u t => va_P D classes (wW cI cZ q0 u.1 ++ wD cI cZ q1 u.2) t.heap) A) (#[.ref (q0 0), .ref (q1 0), .int p1, .int p2] : Array Value) s 0 0 A) (F0 m 54 ls []) := by
    intro x4 x5 s0 s1 H locs ls hf hP hD hS hl
    unfold B_X5_eatCell_54 at hf
    refine lv_iconst (v := (0 : Int32)) hx hb dX5_eatCell_54 (by decide) ?_
    refine lv_istore (lv' := [(7, .int (0 : Int32)), (0, .ref (q0 0)), (4, .int x4), (5, .int x5)]) hx hb dX5_eatCell_55 hl (by decide) rfl (fun ls hl => ?_)
    exact k_57 x4 x5 (0 : Int32) s0 s1 H locs ls hf hP hD hS (lv_sub hl [1, 2, 3, 0] rfl)
  have k_39 : ∀ (x2 : Int32) (x4 : Int32) (x5 : Int32) (t0 : Int32) (s0 : CS) (s1 : CS) (H : Heap) (locs : List Loc) (ls : Array Slot), B_X5_eatCell_39  x2 x4 x5 t0 s0 s1 Q → va_P D classes (wW cI cZ q0 s0 ++ wD cI cZ q1 s1) H → va_D A (wW cI cZ q0 s0 ++ wD cI cZ q1 s1) → va_S A s.heap H locs → lv_has ls 8 [(0, .ref (q0 0)), (2, .int x2), (4, .int x4), (5, .int x5)] → W p l e (headSpec (wsA yX5_eatCell cX5_eatCell 8 (some .int)) ({ frames := 4, cells := 0, slots := 0, locals := 87 })).room s m (#[.ref (q0 0), .ref (q1 0), .int p1, .int p2] : Array Value) below meth c H locs 0 0 (MQ below (va_Qi (fun (r : Int32) (u : CS × CS) => Q r u.1 u.2) (fun u t => va_P D classes (wW cI cZ q0 u.1 ++ wD cI cZ q1 u.2) t.heap) A) (#[.ref (q0 0), .ref (q1 0), .int p1, .int p2] : Array Value) s 0 0 A) (F0 m 39 ls [.int t0]) := by
    intro x2 x4 x5 t0 s0 s1 H locs ls hf hP hD hS hl
    unfold B_X5_eatCell_39 at hf
    refine lv_istore (lv' := [(6, .int t0), (0, .ref (q0 0)), (2, .int x2), (4, .int x4), (5, .int x5)]) hx hb dX5_eatCell_39 hl (by decide) rfl (fun ls hl => ?_)
    refine lv_iload hx hb dX5_eatCell_41 (lv_at hl 0 rfl) ?_
    refine lv_if_ne (tgt := 54) hx hb dX5_eatCell_43 (by decide) (fun c_10 => ?_) (fun c_10 => ?_)
    · have hf := hf.1 c_10
      exact k_54 x4 x5 s0 s1 H locs ls hf hP hD hS (lv_sub hl [1, 3, 4] rfl)
    · have hf := hf.2 c_10
      refine lv_aload_n hx hb dX5_eatCell_46 rfl (lv_at hl 1 rfl) ?_
      refine lv_iload_n hx hb dX5_eatCell_47 rfl (lv_at hl 2 rfl) ?_
      refine lv_iload hx hb dX5_eatCell_48 (lv_at hl 4 rfl) ?_
      refine lv_iconst (v := (1 : Int32)) hx hb dX5_eatCell_50 (by decide) ?_
      have hPc : va_P D classes (wW cI cZ q0 s0) H := hP.sub [0, 1, 2, 3, 4] rfl
      have hDc : va_D A (wW cI cZ q0 s0) := hD.sub [0, 1, 2, 3, 4] (by decide) rfl
      have hFc := va_free (wc := (wW cI cZ q0 s0)) hD hS hA [0, 1, 2, 3, 4] rfl
      refine va_callv (va_runV (As := [.int x2, .int x5, .int (1 : Int32)]) (rest := []) ⟨hx, hb, hml, hown, hts⟩ (c_X5_pay l D cI cZ cW q0 H.size x2 x5 (1 : Int32) s0 _ hf) ⟨callB_of 3 hts (gA tw_399) rfl rfl rfl (ht _ tw_4) (ht _ tw_396) hd_X5_pay ⟨Nat.le_of_ble_eq_true rfl, Nat.le_of_ble_eq_true rfl⟩, ht _ tw_398, ht _ twp_10⟩ ⟨PW_blind, va_recv hK hP (ci := 3) (q0 := 0) rfl rfl, fun U hU hW => PW_mk hPc hDc hK hU hW⟩ rfl rfl hl.1 rfl (lv_room (Nat.le_of_ble_eq_true rfl)) dX5_eatCell_51 ⟨Nat.zero_le _, Nat.zero_le _⟩) hS (fun q _ h => hFc q h) hFc (fun u t H1 locs ht1 hvm hf hB hz1 hk1 hS => ?_)
      obtain ⟨s0_11, rfl⟩ : ∃ z, z = u := ⟨_, rfl⟩
      rw [ht1] at hB
      obtain ⟨hP, hD⟩ := cj [0, 1, 2, 3, 4] (wW cI cZ q0 s0) (wW cI cZ q0 s0_11) hP hD rfl rfl hk1 hB
      generalize H1 = H at hP hS ⊢
      have hP : va_P D classes (wW cI cZ q0 s0_11 ++ wD cI cZ q1 s1) H := hP
      have hD : va_D A (wW cI cZ q0 s0_11 ++ wD cI cZ q1 s1) := hD
      exact k_54 x4 x5 s0_11 s1 H locs ls hf hP hD hS (lv_sub hl [1, 3, 4] rfl)
  have k_38 : ∀ (x2 : Int32) (x4 : Int32) (x5 : Int32) (s0 : CS) (s1 : CS) (H : Heap) (locs : List Loc) (ls : Array Slot), B_X5_eatCell_38  x2 x4 x5 s0 s1 Q → va_P D classes (wW cI cZ q0 s0 ++ wD cI cZ q1 s1) H → va_D A (wW cI cZ q0 s0 ++ wD cI cZ q1 s1) → va_S A s.heap H locs → lv_has ls 8 [(0, .ref (q0 0)), (2, .int x2), (4, .int x4), (5, .int x5)] → W p l e (headSpec (wsA yX5_eatCell cX5_eatCell 8 (some .int)) ({ frames := 4, cells := 0, slots := 0, locals := 87 })).room s m (#[.ref (q0 0), .ref (q1 0), .int p1, .int p2] : Array Value) below meth c H locs 0 0 (MQ below (va_Qi (fun (r : Int32) (u : CS × CS) => Q r u.1 u.2) (fun u t => va_P D classes (wW cI cZ q0 u.1 ++ wD cI cZ q1 u.2) t.heap) A) (#[.ref (q0 0), .ref (q1 0), .int p1, .int p2] : Array Value) s 0 0 A) (F0 m 38 ls []) := by
    intro x2 x4 x5 s0 s1 H locs ls hf hP hD hS hl
    unfold B_X5_eatCell_38 at hf
    refine lv_iconst (v := (0 : Int32)) hx hb dX5_eatCell_38 (by decide) ?_
    exact k_39 x2 x4 x5 (0 : Int32) s0 s1 H locs ls hf hP hD hS (lv_sub hl [0, 1, 2, 3] rfl)
  have start : ∀ (H : Heap) (locs : List Loc), va_P D classes (wW cI cZ q0 s0 ++ wD cI cZ q1 s1) H → va_D A (wW cI cZ q0 s0 ++ wD cI cZ q1 s1) → va_S A s.heap H locs → W p l e (headSpec (wsA yX5_eatCell cX5_eatCell 8 (some .int)) ({ frames := 4, cells := 0, slots := 0, locals := 87 })).room s m (#[.ref (q0 0), .ref (q1 0), .int p1, .int p2] : Array Value) below meth c H locs 0 0 (MQ below (va_Qi (fun (r : Int32) (u : CS × CS) => Q r u.1 u.2) (fun u t => va_P D classes (wW cI cZ q0 u.1 ++ wD cI cZ q1 u.2) t.heap) A) (#[.ref (q0 0), .ref (q1 0), .int p1, .int p2] : Array Value) s 0 0 A) (F0 m 0 ls []) := by
    intro H locs hP hD hS
    refine lv_iload_n hx hb dX5_eatCell_0 rfl (lv_at hl 3 rfl) ?_
    have hPc : va_P D classes ([] : va_W) H := hP.sub [] rfl
    refine vp_callSi (W.runS (As := [.int p2]) (rest := []) ⟨hx, hb, hml, hown, hts⟩ (c_X2_bitOf l D cI cZ cW  p2 _ hf) ⟨callB_of 1 hts (gA tw_248) rfl rfl rfl (ht _ tw_9) (ht _ tw_266) hd_X2_bitOf ⟨Nat.le_of_ble_eq_true rfl, Nat.le_of_ble_eq_true rfl⟩, ht _ tw_247⟩ ⟨PR_blind, fun U hU hW => PR_mk hPc hK hU hW⟩ rfl rfl hl.1 rfl (lv_room (Nat.le_of_ble_eq_true rfl)) dX5_eatCell_1 ⟨Nat.zero_le _, Nat.zero_le _⟩) (fun r_12 hf => ?_)
    refine lv_istore (lv' := [(4, .int r_12), (0, .ref (q0 0)), (1, .ref (q1 0)), (2, .int p1), (3, .int p2)]) hx hb dX5_eatCell_4 hl (by decide) rfl (fun ls hl => ?_)
    refine lv_aload_n hx hb dX5_eatCell_6 rfl (lv_at hl 1 rfl) ?_
    refine lv_aload_n hx hb dX5_eatCell_7 rfl (lv_at hl 2 rfl) ?_
    refine lv_iload_n hx hb dX5_eatCell_8 rfl (lv_at hl 4 rfl) ?_
    have hPc : va_P D classes (wW cI cZ q0 s0 ++ wD cI cZ q1 s1) H := hP
    refine vp_callSi (W.runV (As := [.ref (q1 0), .int p2]) (rest := []) ⟨hx, hb, hml, hown, hts⟩ (c_X5_ownerAt l D cI cZ cW q0 q1 p2 s0 s1 _ hf) ⟨callB_of 2 hts (gA tw_340) rfl rfl rfl (ht _ tw_4) (ht _ tw_434) hd_X5_ownerAt ⟨Nat.le_of_ble_eq_true rfl, Nat.le_of_ble_eq_true rfl⟩, ht _ tw_338, ht _ tw_339⟩ ⟨PR_blind, va_recv hK hP (ci := 3) (q0 := 0) rfl rfl, fun U hU hW => PR_mk hPc hK hU hW⟩ rfl rfl hl.1 rfl (lv_room (Nat.le_of_ble_eq_true rfl)) dX5_eatCell_9 ⟨Nat.zero_le _, Nat.zero_le _⟩) (fun r_13 hf => ?_)
    refine lv_istore (lv' := [(5, .int r_13), (4, .int r_12), (0, .ref (q0 0)), (1, .ref (q1 0)), (2, .int p1), (3, .int p2)]) hx hb dX5_eatCell_12 hl (by decide) rfl (fun ls hl => ?_)
    refine lv_aload_n hx hb dX5_eatCell_14 rfl (lv_at hl 2 rfl) ?_
    refine lv_iload_n hx hb dX5_eatCell_15 rfl (lv_at hl 5 rfl) ?_
    have hPc : va_P D classes (wW cI cZ q0 s0) H := hP.sub [0, 1, 2, 3, 4] rfl
    refine vp_callSi (W.runV (As := [.int p2]) (rest := []) ⟨hx, hb, hml, hown, hts⟩ (c_X5_stuffAt l D cI cZ cW q0 p2 s0 _ hf) ⟨callB_of 1 hts (gA tw_332) rfl rfl rfl (ht _ tw_4) (ht _ tw_435) hd_X5_stuffAt ⟨Nat.le_of_ble_eq_true rfl, Nat.le_of_ble_eq_true rfl⟩, ht _ tw_330, ht _ tw_331⟩ ⟨PR_blind, va_recv hK hP (ci := 3) (q0 := 0) rfl rfl, fun U hU hW => PR_mk hPc hK hU hW⟩ rfl rfl hl.1 rfl (lv_room (Nat.le_of_ble_eq_true rfl)) dX5_eatCell_16 ⟨Nat.zero_le _, Nat.zero_le _⟩) (fun r_14 hf => ?_)
    refine lv_if_ne (tgt := 38) hx hb dX5_eatCell_19 (by decide) (fun c_15 => ?_) (fun c_15 => ?_)
    · have hf := hf.1 c_15
      exact k_38 p1 r_12 r_13 s0 s1 H locs ls hf hP hD hS (lv_sub hl [2, 4, 1, 0] rfl)
    · have hf := hf.2 c_15
      refine lv_aload_n hx hb dX5_eatCell_22 rfl (lv_at hl 3 rfl) ?_
      refine va_get (D := D) (ci := 1) (v := .ref (q1 1)) (C := RX1) (T := TX1) (N := 14) hx hb ht inX1 hown hK hP 5 rfl rfl 2 (by decide) (ht _ tw_36) (fun _ h9 => h9) rfl dX5_eatCell_23 ?_
      refine lv_iload_n hx hb dX5_eatCell_26 rfl (lv_at hl 4 rfl) ?_
      have hPc : va_P D classes (wI cI (q1 1) 4 (s1.2.1 2)) H := hP.sub [6] rfl
      refine vp_callSi (W.runS (As := [.ref (q1 1), .int p1]) (rest := []) ⟨hx, hb, hml, hown, hts⟩ (c_X3_get l D cI cZ cW (q1 1) p1 4 (s1.2.1 2) _ hf) ⟨callB_of 2 hts (gA tw_235) rfl rfl rfl (ht _ tw_8) (ht _ tw_342) hd_X3_get ⟨Nat.le_of_ble_eq_true rfl, Nat.le_of_ble_eq_true rfl⟩, ht _ tw_234⟩ ⟨PR_blind, fun U hU hW => PR_mk hPc hK hU hW⟩ rfl rfl hl.1 rfl (lv_room (Nat.le_of_ble_eq_true rfl)) dX5_eatCell_27 ⟨Nat.zero_le _, Nat.zero_le _⟩) (fun r_16 hf => ?_)
      refine lv_iconst (v := (2 : Int32)) hx hb dX5_eatCell_30 (by decide) ?_
      refine lv_icmp_ne (tgt := 38) hx hb dX5_eatCell_31 (by decide) (fun c_17 => ?_) (fun c_17 => ?_)
      · have hf := hf.1 c_17
        exact k_38 p1 r_12 r_13 s0 s1 H locs ls hf hP hD hS (lv_sub hl [2, 4, 1, 0] rfl)
      · have hf := hf.2 c_17
        refine lv_iconst (v := (1 : Int32)) hx hb dX5_eatCell_34 (by decide) ?_
        refine lv_goto (tgt := 39) hx hb dX5_eatCell_35 (by decide) ?_
        exact k_39 p1 r_12 r_13 (1 : Int32) s0 s1 H locs ls hf hP hD hS (lv_sub hl [2, 4, 1, 0] rfl)
  exact start s.heap [] hP hD hS
def B_X5_refusalToSell_38 (s0 : CS) (s1 : CS) (Q : Int32 → Prop) : Prop := Q (-3 : Int32)
def wp_X5_refusalToSell (p1 : Int32) (p2 : Int32) (s0 : CS) (s1 : CS) (Q : Int32 → Prop) : Prop := wp_X1_hasHole p1 s1 (fun r_1 => ((r_1 = 0 → Q (-1 : Int32)) ∧ (¬ r_1 = 0 → wp_X1_hasOwner p2 s1 (fun r_3 => ((¬ r_3 = 0 → wp_X5_isGone p1 s0 (fun r_5 => ((¬ r_5 = 0 → B_X5_refusalToSell_38 s0 s1  Q) ∧ (r_5 = 0 → wp_X3_get p1 5 (s0.2.1 1) (fun r_7 => ((¬ r_7 = p2 → Q (0 : Int32)) ∧ (r_7 = p2 → B_X5_refusalToSell_38 s0 s1  Q))))))) ∧ (r_3 = 0 → Q (-1 : Int32)))))))
set_option maxHeartbeats 4000000 in
set_option maxRecDepth 100000 in
theorem c_X5_refusalToSell (l : Launch) (D : va_G) (cI cZ cW : ClassId) (q0 : Nat → Nat) (q1 : Nat → Nat) (p1 : Int32) (p2 : Int32) (s0 : CS) (s1 : CS) (Q : Int32 → Prop) (hf : wp_X5_refusalToSell p1 p2 s0 s1 Q) : Met l yX5_refusalToSell (wsA yX5_refusalToSell cX5_refusalToSell 4 (some .int)) ({ frames := 2, cells := 0, slots := 0, locals := 42 }) (PR D cI cZ cW [.ref (q0 0), .ref (q1 0), .int p1, .int p2] (wW cI cZ q0 s0 ++ wD cI cZ q1 s1)) (vp_Si Q) 0 0 (fun _ => False) := by
  refine Met.ofW (cc := cX5_refusalToSell) (maxL := 4) (ret := (some .int)) (by decide) rfl ?_
  intro p e s m args below meth c s₁ B hml hv
  obtain ⟨rfl, hP, hK⟩ := hv
  have hx := B.exec
  have hb := B.bytes
  have hr := B.returns
  have hts := atoms_spec (ws := (wsA yX5_refusalToSell cX5_refusalToSell 4 (some .int))) B.pre
  have ht : ∀ w ∈ lw_g, w.before _ s = true := fun w h => hts w (List.mem_cons_of_mem _ h)
  have hown : s.vm.findClass RX5 = some m.cls := findClass_of_methodNamed B.named
  have hlocks := B.notSynchronized
  have hl := lv_entry ([.ref (q0 0), .ref (q1 0), .int p1, .int p2]) (n := 4) (Nat.le_of_ble_eq_true rfl)
  rw [lg_entry_eq]
  generalize (lg_sl ([.ref (q0 0), .ref (q1 0), .int p1, .int p2]) ++ List.replicate (4 - (lg_sl ([.ref (q0 0), .ref (q1 0), .int p1, .int p2])).length) Slot.unset).toArray = ls at hl ⊢
  have hl : lv_has ls 4 [(0, .ref (q0 0)), (1, .ref (q1 0)), (2, .int p1), (3, .int p2)] := hl
  unfold wp_X5_refusalToSell at hf
  have k_38 : ∀  (ls : Array Slot), B_X5_refusalToSell_38 s0 s1  Q → lv_has ls 4 [] → W p l e (headSpec (wsA yX5_refusalToSell cX5_refusalToSell 4 (some .int)) ({ frames := 2, cells := 0, slots := 0, locals := 42 })).room s m (#[.ref (q0 0), .ref (q1 0), .int p1, .int p2] : Array Value) below meth c s.heap [] 0 0 (MQ below (vp_Si Q) (#[.ref (q0 0), .ref (q1 0), .int p1, .int p2] : Array Value) s 0 0 (fun _ => False)) (F0 m 38 ls []) := by
    intro  ls hf hl
    unfold B_X5_refusalToSell_38 at hf
    refine lv_bipush (v := (-3 : Int32)) hx hb dX5_refusalToSell_38 (by decide) ?_
    refine lv_goto (tgt := 44) hx hb dX5_refusalToSell_40 (by decide) ?_
    exact W.iret (v := (-3 : Int32)) hx hb hr (fun t ht hW => ⟨(-3 : Int32), rfl, hf, ht⟩) (fun q h => absurd h List.not_mem_nil) dX5_refusalToSell_44
  refine lv_aload_n hx hb dX5_refusalToSell_0 rfl (lv_at hl 1 rfl) ?_
  refine lv_iload_n hx hb dX5_refusalToSell_1 rfl (lv_at hl 2 rfl) ?_
  have hPc : va_P D classes (wD cI cZ q1 s1) s.heap := hP.sub [5, 6, 7, 8, 9, 10] rfl
  refine vp_callSi (W.runV (As := [.int p1]) (rest := []) ⟨hx, hb, hml, hown, hts⟩ (c_X1_hasHole l D cI cZ cW q1 p1 s1 _ hf) ⟨callB_of 1 hts (gA tw_265) rfl rfl rfl (ht _ tw_2) (ht _ tw_262) hd_X1_hasHole ⟨Nat.le_of_ble_eq_true rfl, Nat.le_of_ble_eq_true rfl⟩, ht _ tw_263, ht _ tw_264⟩ ⟨PR_blind, va_recv hK hP (ci := 1) (q0 := 5) rfl rfl, fun U hU hW => PR_mk hPc hK hU hW⟩ rfl rfl hl.1 rfl (lv_room (Nat.le_of_ble_eq_true rfl)) dX5_refusalToSell_2 ⟨Nat.zero_le _, Nat.zero_le _⟩) (fun r_1 hf => ?_)
  refine lv_if_eq (tgt := 16) hx hb dX5_refusalToSell_5 (by decide) (fun c_2 => ?_) (fun c_2 => ?_)
  · have hf := hf.1 c_2
    refine lv_iconst (v := (-1 : Int32)) hx hb dX5_refusalToSell_16 (by decide) ?_
    exact W.iret (v := (-1 : Int32)) hx hb hr (fun t ht hW => ⟨(-1 : Int32), rfl, hf, ht⟩) (fun q h => absurd h List.not_mem_nil) dX5_refusalToSell_17
  · have hf := hf.2 c_2
    refine lv_aload_n hx hb dX5_refusalToSell_8 rfl (lv_at hl 1 rfl) ?_
    refine lv_iload_n hx hb dX5_refusalToSell_9 rfl (lv_at hl 3 rfl) ?_
    have hPc : va_P D classes (wD cI cZ q1 s1) s.heap := hP.sub [5, 6, 7, 8, 9, 10] rfl
    refine vp_callSi (W.runV (As := [.int p2]) (rest := []) ⟨hx, hb, hml, hown, hts⟩ (c_X1_hasOwner l D cI cZ cW q1 p2 s1 _ hf) ⟨callB_of 1 hts (gA tw_232) rfl rfl rfl (ht _ tw_2) (ht _ tw_302) hd_X1_hasOwner ⟨Nat.le_of_ble_eq_true rfl, Nat.le_of_ble_eq_true rfl⟩, ht _ tw_230, ht _ tw_231⟩ ⟨PR_blind, va_recv hK hP (ci := 1) (q0 := 5) rfl rfl, fun U hU hW => PR_mk hPc hK hU hW⟩ rfl rfl hl.1 rfl (lv_room (Nat.le_of_ble_eq_true rfl)) dX5_refusalToSell_10 ⟨Nat.zero_le _, Nat.zero_le _⟩) (fun r_3 hf => ?_)
    refine lv_if_ne (tgt := 18) hx hb dX5_refusalToSell_13 (by decide) (fun c_4 => ?_) (fun c_4 => ?_)
    · have hf := hf.1 c_4
      refine lv_aload_n hx hb dX5_refusalToSell_18 rfl (lv_at hl 0 rfl) ?_
      refine lv_iload_n hx hb dX5_refusalToSell_19 rfl (lv_at hl 2 rfl) ?_
      have hPc : va_P D classes (wW cI cZ q0 s0) s.heap := hP.sub [0, 1, 2, 3, 4] rfl
      refine vp_callSi (W.runV (As := [.int p1]) (rest := []) ⟨hx, hb, hml, hown, hts⟩ (c_X5_isGone l D cI cZ cW q0 p1 s0 _ hf) ⟨callB_of 1 hts (gA tw_451) rfl rfl rfl (ht _ tw_4) (ht _ tw_448) hd_X5_isGone ⟨Nat.le_of_ble_eq_true rfl, Nat.le_of_ble_eq_true rfl⟩, ht _ tw_449, ht _ tw_450⟩ ⟨PR_blind, va_recv hK hP (ci := 3) (q0 := 0) rfl rfl, fun U hU hW => PR_mk hPc hK hU hW⟩ rfl rfl hl.1 rfl (lv_room (Nat.le_of_ble_eq_true rfl)) dX5_refusalToSell_20 ⟨Nat.zero_le _, Nat.zero_le _⟩) (fun r_5 hf => ?_)
      refine lv_if_ne (tgt := 38) hx hb dX5_refusalToSell_23 (by decide) (fun c_6 => ?_) (fun c_6 => ?_)
      · have hf := hf.1 c_6
        exact k_38  ls hf (lv_sub hl [] rfl)
      · have hf := hf.2 c_6
        refine lv_aload_n hx hb dX5_refusalToSell_26 rfl (lv_at hl 0 rfl) ?_
        refine va_get (D := D) (ci := 3) (v := .ref (q0 2)) (C := RX5) (T := TX5) (N := 6) hx hb ht inX5 hown hK hP 0 rfl rfl 1 (by decide) (ht _ tw_92) (fun _ h9 => h9) rfl dX5_refusalToSell_27 ?_
        refine lv_iload_n hx hb dX5_refusalToSell_30 rfl (lv_at hl 2 rfl) ?_
        have hPc : va_P D classes (wI cI (q0 2) 5 (s0.2.1 1)) s.heap := hP.sub [2] rfl
        refine vp_callSi (W.runS (As := [.ref (q0 2), .int p1]) (rest := []) ⟨hx, hb, hml, hown, hts⟩ (c_X3_get l D cI cZ cW (q0 2) p1 5 (s0.2.1 1) _ hf) ⟨callB_of 2 hts (gA tw_235) rfl rfl rfl (ht _ tw_8) (ht _ tw_342) hd_X3_get ⟨Nat.le_of_ble_eq_true rfl, Nat.le_of_ble_eq_true rfl⟩, ht _ tw_234⟩ ⟨PR_blind, fun U hU hW => PR_mk hPc hK hU hW⟩ rfl rfl hl.1 rfl (lv_room (Nat.le_of_ble_eq_true rfl)) dX5_refusalToSell_31 ⟨Nat.zero_le _, Nat.zero_le _⟩) (fun r_7 hf => ?_)
        refine lv_iload_n hx hb dX5_refusalToSell_34 rfl (lv_at hl 3 rfl) ?_
        refine lv_icmp_ne (tgt := 43) hx hb dX5_refusalToSell_35 (by decide) (fun c_8 => ?_) (fun c_8 => ?_)
        · have hf := hf.1 c_8
          refine lv_iconst (v := (0 : Int32)) hx hb dX5_refusalToSell_43 (by decide) ?_
          exact W.iret (v := (0 : Int32)) hx hb hr (fun t ht hW => ⟨(0 : Int32), rfl, hf, ht⟩) (fun q h => absurd h List.not_mem_nil) dX5_refusalToSell_44
        · have hf := hf.2 c_8
          exact k_38  ls hf (lv_sub hl [] rfl)
    · have hf := hf.2 c_4
      refine lv_iconst (v := (-1 : Int32)) hx hb dX5_refusalToSell_16 (by decide) ?_
      exact W.iret (v := (-1 : Int32)) hx hb hr (fun t ht hW => ⟨(-1 : Int32), rfl, hf, ht⟩) (fun q h => absurd h List.not_mem_nil) dX5_refusalToSell_17
def wp_X5_refusalToLet (p1 : Int32) (p2 : Int32) (s0 : CS) (s1 : CS) (Q : Int32 → Prop) : Prop := wp_X5_refusalToSell p1 p2 s0 s1 (fun r_1 => ((r_1 = 0 → wp_X3_get p1 5 (s0.2.1 2) (fun r_3 => ((¬ r_3 = p2 → Q (0 : Int32)) ∧ (r_3 = p2 → Q (-3 : Int32))))) ∧ (¬ r_1 = 0 → Q r_1)))
set_option maxHeartbeats 4000000 in
set_option maxRecDepth 100000 in
theorem c_X5_refusalToLet (l : Launch) (D : va_G) (cI cZ cW : ClassId) (q0 : Nat → Nat) (q1 : Nat → Nat) (p1 : Int32) (p2 : Int32) (s0 : CS) (s1 : CS) (Q : Int32 → Prop) (hf : wp_X5_refusalToLet p1 p2 s0 s1 Q) : Met l yX5_refusalToLet (wsA yX5_refusalToLet cX5_refusalToLet 5 (some .int)) ({ frames := 3, cells := 0, slots := 0, locals := 65 }) (PR D cI cZ cW [.ref (q0 0), .ref (q1 0), .int p1, .int p2] (wW cI cZ q0 s0 ++ wD cI cZ q1 s1)) (vp_Si Q) 0 0 (fun _ => False) := by
  refine Met.ofW (cc := cX5_refusalToLet) (maxL := 5) (ret := (some .int)) (by decide) rfl ?_
  intro p e s m args below meth c s₁ B hml hv
  obtain ⟨rfl, hP, hK⟩ := hv
  have hx := B.exec
  have hb := B.bytes
  have hr := B.returns
  have hts := atoms_spec (ws := (wsA yX5_refusalToLet cX5_refusalToLet 5 (some .int))) B.pre
  have ht : ∀ w ∈ lw_g, w.before _ s = true := fun w h => hts w (List.mem_cons_of_mem _ h)
  have hown : s.vm.findClass RX5 = some m.cls := findClass_of_methodNamed B.named
  have hlocks := B.notSynchronized
  have hl := lv_entry ([.ref (q0 0), .ref (q1 0), .int p1, .int p2]) (n := 5) (Nat.le_of_ble_eq_true rfl)
  rw [lg_entry_eq]
  generalize (lg_sl ([.ref (q0 0), .ref (q1 0), .int p1, .int p2]) ++ List.replicate (5 - (lg_sl ([.ref (q0 0), .ref (q1 0), .int p1, .int p2])).length) Slot.unset).toArray = ls at hl ⊢
  have hl : lv_has ls 5 [(0, .ref (q0 0)), (1, .ref (q1 0)), (2, .int p1), (3, .int p2)] := hl
  unfold wp_X5_refusalToLet at hf
  refine lv_aload_n hx hb dX5_refusalToLet_0 rfl (lv_at hl 0 rfl) ?_
  refine lv_aload_n hx hb dX5_refusalToLet_1 rfl (lv_at hl 1 rfl) ?_
  refine lv_iload_n hx hb dX5_refusalToLet_2 rfl (lv_at hl 2 rfl) ?_
  refine lv_iload_n hx hb dX5_refusalToLet_3 rfl (lv_at hl 3 rfl) ?_
  have hPc : va_P D classes (wW cI cZ q0 s0 ++ wD cI cZ q1 s1) s.heap := hP
  refine vp_callSi (W.runV (As := [.ref (q1 0), .int p1, .int p2]) (rest := []) ⟨hx, hb, hml, hown, hts⟩ (c_X5_refusalToSell l D cI cZ cW q0 q1 p1 p2 s0 s1 _ hf) ⟨callB_of 3 hts (gA tw_447) rfl rfl rfl (ht _ tw_4) (ht _ tw_444) hd_X5_refusalToSell ⟨Nat.le_of_ble_eq_true rfl, Nat.le_of_ble_eq_true rfl⟩, ht _ tw_445, ht _ tw_446⟩ ⟨PR_blind, va_recv hK hP (ci := 3) (q0 := 0) rfl rfl, fun U hU hW => PR_mk hPc hK hU hW⟩ rfl rfl hl.1 rfl (lv_room (Nat.le_of_ble_eq_true rfl)) dX5_refusalToLet_4 ⟨Nat.zero_le _, Nat.zero_le _⟩) (fun r_1 hf => ?_)
  refine lv_istore (lv' := [(4, .int r_1), (0, .ref (q0 0)), (1, .ref (q1 0)), (2, .int p1), (3, .int p2)]) hx hb dX5_refusalToLet_7 hl (by decide) rfl (fun ls hl => ?_)
  refine lv_iload hx hb dX5_refusalToLet_9 (lv_at hl 0 rfl) ?_
  refine lv_if_eq (tgt := 17) hx hb dX5_refusalToLet_11 (by decide) (fun c_2 => ?_) (fun c_2 => ?_)
  · have hf := hf.1 c_2
    refine lv_aload_n hx hb dX5_refusalToLet_17 rfl (lv_at hl 1 rfl) ?_
    refine va_get (D := D) (ci := 3) (v := .ref (q0 3)) (C := RX5) (T := TX5) (N := 6) hx hb ht inX5 hown hK hP 0 rfl rfl 2 (by decide) (ht _ tw_94) (fun _ h9 => h9) rfl dX5_refusalToLet_18 ?_
    refine lv_iload_n hx hb dX5_refusalToLet_21 rfl (lv_at hl 3 rfl) ?_
    have hPc : va_P D classes (wI cI (q0 3) 5 (s0.2.1 2)) s.heap := hP.sub [3] rfl
    refine vp_callSi (W.runS (As := [.ref (q0 3), .int p1]) (rest := []) ⟨hx, hb, hml, hown, hts⟩ (c_X3_get l D cI cZ cW (q0 3) p1 5 (s0.2.1 2) _ hf) ⟨callB_of 2 hts (gA tw_235) rfl rfl rfl (ht _ tw_8) (ht _ tw_342) hd_X3_get ⟨Nat.le_of_ble_eq_true rfl, Nat.le_of_ble_eq_true rfl⟩, ht _ tw_234⟩ ⟨PR_blind, fun U hU hW => PR_mk hPc hK hU hW⟩ rfl rfl hl.1 rfl (lv_room (Nat.le_of_ble_eq_true rfl)) dX5_refusalToLet_22 ⟨Nat.zero_le _, Nat.zero_le _⟩) (fun r_3 hf => ?_)
    refine lv_iload_n hx hb dX5_refusalToLet_25 rfl (lv_at hl 4 rfl) ?_
    refine lv_icmp_ne (tgt := 34) hx hb dX5_refusalToLet_26 (by decide) (fun c_4 => ?_) (fun c_4 => ?_)
    · have hf := hf.1 c_4
      refine lv_iconst (v := (0 : Int32)) hx hb dX5_refusalToLet_34 (by decide) ?_
      exact W.iret (v := (0 : Int32)) hx hb hr (fun t ht hW => ⟨(0 : Int32), rfl, hf, ht⟩) (fun q h => absurd h List.not_mem_nil) dX5_refusalToLet_35
    · have hf := hf.2 c_4
      refine lv_bipush (v := (-3 : Int32)) hx hb dX5_refusalToLet_29 (by decide) ?_
      refine lv_goto (tgt := 35) hx hb dX5_refusalToLet_31 (by decide) ?_
      exact W.iret (v := (-3 : Int32)) hx hb hr (fun t ht hW => ⟨(-3 : Int32), rfl, hf, ht⟩) (fun q h => absurd h List.not_mem_nil) dX5_refusalToLet_35
  · have hf := hf.2 c_2
    refine lv_iload hx hb dX5_refusalToLet_14 (lv_at hl 0 rfl) ?_
    exact W.iret (v := r_1) hx hb hr (fun t ht hW => ⟨r_1, rfl, hf, ht⟩) (fun q h => absurd h List.not_mem_nil) dX5_refusalToLet_16
def wp_X5_letHole (p0 : Int32) (p1 : Int32) (s0 : CS) (Q : Int32 → CS → Prop) : Prop := wp_X3_get p0 5 (s0.2.1 2) (fun r_1 => wp_X3_put p0 p1 5 (s0.2.1 2) (fun f_2 => ∀ s0_3 : CS, s0_3 = sF s0 2 f_2 → Q r_1 s0_3))
set_option maxHeartbeats 4000000 in
set_option maxRecDepth 100000 in
theorem c_X5_letHole (l : Launch) (D : va_G) (cI cZ cW : ClassId) (q0 : Nat → Nat) (sz : Nat) (p0 : Int32) (p1 : Int32) (s0 : CS) (Q : Int32 → CS → Prop) (hf : wp_X5_letHole p0 p1 s0 Q) : Met l yX5_letHole (wsA yX5_letHole cX5_letHole 4 (some .int)) ({ frames := 1, cells := 0, slots := 0, locals := 22 }) (PW D cI cZ cW [.ref (q0 0), .int p0, .int p1] (wW cI cZ q0 s0) sz) (va_Qi (fun (r : Int32) (u : CS) => Q r u) (fun u t => va_P D classes (wW cI cZ q0 u) t.heap) (va_A (wW cI cZ q0 s0) sz)) 0 0 (va_A (wW cI cZ q0 s0) sz) := by
  refine Met.ofW (cc := cX5_letHole) (maxL := 4) (ret := (some .int)) (by decide) rfl ?_
  intro p e s m args below meth c s₁ B hml hv
  obtain ⟨rfl, hsz, hP, hK, hD0⟩ := hv
  have hx := B.exec
  have hb := B.bytes
  have hr := B.returns
  have hts := atoms_spec (ws := (wsA yX5_letHole cX5_letHole 4 (some .int))) B.pre
  have ht : ∀ w ∈ lw_g, w.before _ s = true := fun w h => hts w (List.mem_cons_of_mem _ h)
  have hown : s.vm.findClass RX5 = some m.cls := findClass_of_methodNamed B.named
  have hlocks := B.notSynchronized
  subst hsz
  have hD := hD0.self (sz := s.heap.size)
  generalize hAe : va_A (wW cI cZ q0 s0) s.heap.size = A at hD ⊢
  have hA : ∀ q : Nat, s.heap.size ≤ q → A q := fun q h => by rw [← hAe]; exact Or.inr h
  have hS : va_S A s.heap s.heap [] := va_S.rf
  have hl := lv_entry ([.ref (q0 0), .int p0, .int p1]) (n := 4) (Nat.le_of_ble_eq_true rfl)
  rw [lg_entry_eq]
  generalize (lg_sl ([.ref (q0 0), .int p0, .int p1]) ++ List.replicate (4 - (lg_sl ([.ref (q0 0), .int p0, .int p1])).length) Slot.unset).toArray = ls at hl ⊢
  have hl : lv_has ls 4 [(0, .ref (q0 0)), (1, .int p0), (2, .int p1)] := hl
  unfold wp_X5_letHole at hf
  have start : ∀ (H : Heap) (locs : List Loc), va_P D classes (wW cI cZ q0 s0) H → va_D A (wW cI cZ q0 s0) → va_S A s.heap H locs → W p l e (headSpec (wsA yX5_letHole cX5_letHole 4 (some .int)) ({ frames := 1, cells := 0, slots := 0, locals := 22 })).room s m (#[.ref (q0 0), .int p0, .int p1] : Array Value) below meth c H locs 0 0 (MQ below (va_Qi (fun (r : Int32) (u : CS) => Q r u) (fun u t => va_P D classes (wW cI cZ q0 u) t.heap) A) (#[.ref (q0 0), .int p0, .int p1] : Array Value) s 0 0 A) (F0 m 0 ls []) := by
    intro H locs hP hD hS
    refine lv_aload_n hx hb dX5_letHole_0 rfl (lv_at hl 0 rfl) ?_
    refine va_get (D := D) (ci := 3) (v := .ref (q0 3)) (C := RX5) (T := TX5) (N := 6) hx hb ht inX5 hown hK hP 0 rfl rfl 2 (by decide) (ht _ tw_94) (fun _ h9 => h9) rfl dX5_letHole_1 ?_
    refine lv_iload_n hx hb dX5_letHole_4 rfl (lv_at hl 1 rfl) ?_
    have hPc : va_P D classes (wI cI (q0 3) 5 (s0.2.1 2)) H := hP.sub [3] rfl
    refine vp_callSi (W.runS (As := [.ref (q0 3), .int p0]) (rest := []) ⟨hx, hb, hml, hown, hts⟩ (c_X3_get l D cI cZ cW (q0 3) p0 5 (s0.2.1 2) _ hf) ⟨callB_of 2 hts (gA tw_235) rfl rfl rfl (ht _ tw_8) (ht _ tw_342) hd_X3_get ⟨Nat.le_of_ble_eq_true rfl, Nat.le_of_ble_eq_true rfl⟩, ht _ tw_234⟩ ⟨PR_blind, fun U hU hW => PR_mk hPc hK hU hW⟩ rfl rfl hl.1 rfl (lv_room (Nat.le_of_ble_eq_true rfl)) dX5_letHole_5 ⟨Nat.zero_le _, Nat.zero_le _⟩) (fun r_1 hf => ?_)
    refine lv_istore_n (lv' := [(3, .int r_1), (0, .ref (q0 0)), (1, .int p0), (2, .int p1)]) hx hb dX5_letHole_8 rfl hl (by decide) rfl (fun ls hl => ?_)
    refine lv_aload_n hx hb dX5_letHole_9 rfl (lv_at hl 1 rfl) ?_
    refine va_get (D := D) (ci := 3) (v := .ref (q0 3)) (C := RX5) (T := TX5) (N := 6) hx hb ht inX5 hown hK hP 0 rfl rfl 2 (by decide) (ht _ tw_94) (fun _ h9 => h9) rfl dX5_letHole_10 ?_
    refine lv_iload_n hx hb dX5_letHole_13 rfl (lv_at hl 2 rfl) ?_
    refine lv_iload_n hx hb dX5_letHole_14 rfl (lv_at hl 3 rfl) ?_
    have hPc : va_P D classes (wI cI (q0 3) 5 (s0.2.1 2)) H := hP.sub [3] rfl
    have hDc : va_D A (wI cI (q0 3) 5 (s0.2.1 2)) := hD.sub [3] (by decide) rfl
    have hFc := va_free (wc := (wI cI (q0 3) 5 (s0.2.1 2))) hD hS hA [3] rfl
    refine va_callv (va_runS (As := [.ref (q0 3), .int p0, .int p1]) (rest := []) ⟨hx, hb, hml, hown, hts⟩ (c_X3_put l D cI cZ cW (q0 3) H.size p0 p1 5 (s0.2.1 2) _ hf) ⟨callB_of 3 hts (gA tw_224) rfl rfl rfl (ht _ tw_8) (ht _ tw_403) hd_X3_put ⟨Nat.le_of_ble_eq_true rfl, Nat.le_of_ble_eq_true rfl⟩, ht _ tw_223⟩ ⟨PW_blind, fun U hU hW => PW_mk hPc hDc hK hU hW⟩ rfl rfl hl.1 rfl (lv_room (Nat.le_of_ble_eq_true rfl)) dX5_letHole_15 ⟨Nat.zero_le _, Nat.zero_le _⟩) hS (fun q _ h => hFc q h) hFc (fun u t H1 locs ht1 hvm hf hB hz1 hk1 hS => ?_)
    obtain ⟨f_2, rfl⟩ : ∃ z, z = u := ⟨_, rfl⟩
    rw [ht1] at hB
    obtain ⟨hP, hD⟩ := cj [3] (wI cI (q0 3) 5 (s0.2.1 2)) (wI cI (q0 3) 5 f_2) hP hD rfl rfl hk1 hB
    generalize H1 = H at hP hS ⊢
    obtain ⟨s0_3, es0_3⟩ : ∃ y : CS, y = sF s0 2 f_2 := ⟨_, rfl⟩
    have hf := hf s0_3 es0_3
    have hP : va_P D classes (wW cI cZ q0 s0_3) H := by rw [es0_3]; exact hP
    have hD : va_D A (wW cI cZ q0 s0_3) := by rw [es0_3]; exact hD
    refine lv_iload_n hx hb dX5_letHole_18 rfl (lv_at hl 0 rfl) ?_
    exact W.iret (v := r_1) hx hb hr (fun t ht hW => ⟨⟨r_1, s0_3, rfl, hf, P_heap ht hP⟩, hS.F ht⟩) hS.2.2 dX5_letHole_19
  exact start s.heap [] hP hD hS
def wp_X5_sellHole (p0 : Int32) (p1 : Int32) (s0 : CS) (Q : Int32 → CS → Prop) : Prop := wp_X5_sizeOfHole p0 s0 (fun r_1 => wp_X3_get p0 5 (s0.2.1 1) (fun r_2 => wp_X5_pay p1 r_2 r_1 s0 (fun s0_3 => wp_X3_put p0 p1 5 (s0_3.2.1 1) (fun f_4 => ∀ s0_5 : CS, s0_5 = sF s0_3 1 f_4 → wp_X3_get p0 5 (s0_5.2.1 2) (fun r_6 => ((¬ r_6 = p1 → Q r_1 s0_5) ∧ (r_6 = p1 → wp_X3_put p0 (-9 : Int32) 5 (s0_5.2.1 2) (fun f_8 => ∀ s0_9 : CS, s0_9 = sF s0_5 2 f_8 → Q r_1 s0_9))))))))
set_option maxHeartbeats 4000000 in
set_option maxRecDepth 100000 in
theorem c_X5_sellHole (l : Launch) (D : va_G) (cI cZ cW : ClassId) (q0 : Nat → Nat) (sz : Nat) (p0 : Int32) (p1 : Int32) (s0 : CS) (Q : Int32 → CS → Prop) (hf : wp_X5_sellHole p0 p1 s0 Q) : Met l yX5_sellHole (wsA yX5_sellHole cX5_sellHole 4 (some .int)) ({ frames := 2, cells := 0, slots := 0, locals := 45 }) (PW D cI cZ cW [.ref (q0 0), .int p0, .int p1] (wW cI cZ q0 s0) sz) (va_Qi (fun (r : Int32) (u : CS) => Q r u) (fun u t => va_P D classes (wW cI cZ q0 u) t.heap) (va_A (wW cI cZ q0 s0) sz)) 0 0 (va_A (wW cI cZ q0 s0) sz) := by
  refine Met.ofW (cc := cX5_sellHole) (maxL := 4) (ret := (some .int)) (by decide) rfl ?_
  intro p e s m args below meth c s₁ B hml hv
  obtain ⟨rfl, hsz, hP, hK, hD0⟩ := hv
  have hx := B.exec
  have hb := B.bytes
  have hr := B.returns
  have hts := atoms_spec (ws := (wsA yX5_sellHole cX5_sellHole 4 (some .int))) B.pre
  have ht : ∀ w ∈ lw_g, w.before _ s = true := fun w h => hts w (List.mem_cons_of_mem _ h)
  have hown : s.vm.findClass RX5 = some m.cls := findClass_of_methodNamed B.named
  have hlocks := B.notSynchronized
  subst hsz
  have hD := hD0.self (sz := s.heap.size)
  generalize hAe : va_A (wW cI cZ q0 s0) s.heap.size = A at hD ⊢
  have hA : ∀ q : Nat, s.heap.size ≤ q → A q := fun q h => by rw [← hAe]; exact Or.inr h
  have hS : va_S A s.heap s.heap [] := va_S.rf
  have hl := lv_entry ([.ref (q0 0), .int p0, .int p1]) (n := 4) (Nat.le_of_ble_eq_true rfl)
  rw [lg_entry_eq]
  generalize (lg_sl ([.ref (q0 0), .int p0, .int p1]) ++ List.replicate (4 - (lg_sl ([.ref (q0 0), .int p0, .int p1])).length) Slot.unset).toArray = ls at hl ⊢
  have hl : lv_has ls 4 [(0, .ref (q0 0)), (1, .int p0), (2, .int p1)] := hl
  unfold wp_X5_sellHole at hf
  have start : ∀ (H : Heap) (locs : List Loc), va_P D classes (wW cI cZ q0 s0) H → va_D A (wW cI cZ q0 s0) → va_S A s.heap H locs → W p l e (headSpec (wsA yX5_sellHole cX5_sellHole 4 (some .int)) ({ frames := 2, cells := 0, slots := 0, locals := 45 })).room s m (#[.ref (q0 0), .int p0, .int p1] : Array Value) below meth c H locs 0 0 (MQ below (va_Qi (fun (r : Int32) (u : CS) => Q r u) (fun u t => va_P D classes (wW cI cZ q0 u) t.heap) A) (#[.ref (q0 0), .int p0, .int p1] : Array Value) s 0 0 A) (F0 m 0 ls []) := by
    intro H locs hP hD hS
    refine lv_aload_n hx hb dX5_sellHole_0 rfl (lv_at hl 0 rfl) ?_
    refine lv_iload_n hx hb dX5_sellHole_1 rfl (lv_at hl 1 rfl) ?_
    have hPc : va_P D classes (wW cI cZ q0 s0) H := hP
    refine vp_callSi (W.runV (As := [.int p0]) (rest := []) ⟨hx, hb, hml, hown, hts⟩ (c_X5_sizeOfHole l D cI cZ cW q0 p0 s0 _ hf) ⟨callB_of 1 hts (gA tw_321) rfl rfl rfl (ht _ tw_4) (ht _ tw_412) hd_X5_sizeOfHole ⟨Nat.le_of_ble_eq_true rfl, Nat.le_of_ble_eq_true rfl⟩, ht _ tw_319, ht _ tw_320⟩ ⟨PR_blind, va_recv hK hP (ci := 3) (q0 := 0) rfl rfl, fun U hU hW => PR_mk hPc hK hU hW⟩ rfl rfl hl.1 rfl (lv_room (Nat.le_of_ble_eq_true rfl)) dX5_sellHole_2 ⟨Nat.zero_le _, Nat.zero_le _⟩) (fun r_1 hf => ?_)
    refine lv_istore_n (lv' := [(3, .int r_1), (0, .ref (q0 0)), (1, .int p0), (2, .int p1)]) hx hb dX5_sellHole_5 rfl hl (by decide) rfl (fun ls hl => ?_)
    refine lv_aload_n hx hb dX5_sellHole_6 rfl (lv_at hl 1 rfl) ?_
    refine lv_iload_n hx hb dX5_sellHole_7 rfl (lv_at hl 3 rfl) ?_
    refine lv_aload_n hx hb dX5_sellHole_8 rfl (lv_at hl 1 rfl) ?_
    refine va_get (D := D) (ci := 3) (v := .ref (q0 2)) (C := RX5) (T := TX5) (N := 6) hx hb ht inX5 hown hK hP 0 rfl rfl 1 (by decide) (ht _ tw_92) (fun _ h9 => h9) rfl dX5_sellHole_9 ?_
    refine lv_iload_n hx hb dX5_sellHole_12 rfl (lv_at hl 2 rfl) ?_
    have hPc : va_P D classes (wI cI (q0 2) 5 (s0.2.1 1)) H := hP.sub [2] rfl
    refine vp_callSi (W.runS (As := [.ref (q0 2), .int p0]) (rest := [.int p1, .ref (q0 0)]) ⟨hx, hb, hml, hown, hts⟩ (c_X3_get l D cI cZ cW (q0 2) p0 5 (s0.2.1 1) _ hf) ⟨callB_of 2 hts (gA tw_235) rfl rfl rfl (ht _ tw_8) (ht _ tw_342) hd_X3_get ⟨Nat.le_of_ble_eq_true rfl, Nat.le_of_ble_eq_true rfl⟩, ht _ tw_234⟩ ⟨PR_blind, fun U hU hW => PR_mk hPc hK hU hW⟩ rfl rfl hl.1 rfl (lv_room (Nat.le_of_ble_eq_true rfl)) dX5_sellHole_13 ⟨Nat.zero_le _, Nat.zero_le _⟩) (fun r_2 hf => ?_)
    refine lv_iload_n hx hb dX5_sellHole_16 rfl (lv_at hl 0 rfl) ?_
    have hPc : va_P D classes (wW cI cZ q0 s0) H := hP
    have hDc : va_D A (wW cI cZ q0 s0) := hD
    have hFc := va_free (wc := (wW cI cZ q0 s0)) hD hS hA [0, 1, 2, 3, 4] rfl
    refine va_callv (va_runV (As := [.int p1, .int r_2, .int r_1]) (rest := []) ⟨hx, hb, hml, hown, hts⟩ (c_X5_pay l D cI cZ cW q0 H.size p1 r_2 r_1 s0 _ hf) ⟨callB_of 3 hts (gA tw_399) rfl rfl rfl (ht _ tw_4) (ht _ tw_396) hd_X5_pay ⟨Nat.le_of_ble_eq_true rfl, Nat.le_of_ble_eq_true rfl⟩, ht _ tw_398, ht _ twp_10⟩ ⟨PW_blind, va_recv hK hP (ci := 3) (q0 := 0) rfl rfl, fun U hU hW => PW_mk hPc hDc hK hU hW⟩ rfl rfl hl.1 rfl (lv_room (Nat.le_of_ble_eq_true rfl)) dX5_sellHole_17 ⟨Nat.zero_le _, Nat.zero_le _⟩) hS (fun q _ h => hFc q h) hFc (fun u t H1 locs ht1 hvm hf hB hz1 hk1 hS => ?_)
    obtain ⟨s0_3, rfl⟩ : ∃ z, z = u := ⟨_, rfl⟩
    rw [ht1] at hB
    obtain ⟨hP, hD⟩ := cj [0, 1, 2, 3, 4] (wW cI cZ q0 s0) (wW cI cZ q0 s0_3) hP hD rfl rfl hk1 hB
    generalize H1 = H at hP hS ⊢
    have hP : va_P D classes (wW cI cZ q0 s0_3) H := hP
    have hD : va_D A (wW cI cZ q0 s0_3) := hD
    refine lv_aload_n hx hb dX5_sellHole_20 rfl (lv_at hl 1 rfl) ?_
    refine va_get (D := D) (ci := 3) (v := .ref (q0 2)) (C := RX5) (T := TX5) (N := 6) hx hb ht inX5 hown hK hP 0 rfl rfl 1 (by decide) (ht _ tw_92) (fun _ h9 => h9) rfl dX5_sellHole_21 ?_
    refine lv_iload_n hx hb dX5_sellHole_24 rfl (lv_at hl 2 rfl) ?_
    refine lv_iload_n hx hb dX5_sellHole_25 rfl (lv_at hl 3 rfl) ?_
    have hPc : va_P D classes (wI cI (q0 2) 5 (s0_3.2.1 1)) H := hP.sub [2] rfl
    have hDc : va_D A (wI cI (q0 2) 5 (s0_3.2.1 1)) := hD.sub [2] (by decide) rfl
    have hFc := va_free (wc := (wI cI (q0 2) 5 (s0_3.2.1 1))) hD hS hA [2] rfl
    refine va_callv (va_runS (As := [.ref (q0 2), .int p0, .int p1]) (rest := []) ⟨hx, hb, hml, hown, hts⟩ (c_X3_put l D cI cZ cW (q0 2) H.size p0 p1 5 (s0_3.2.1 1) _ hf) ⟨callB_of 3 hts (gA tw_224) rfl rfl rfl (ht _ tw_8) (ht _ tw_403) hd_X3_put ⟨Nat.le_of_ble_eq_true rfl, Nat.le_of_ble_eq_true rfl⟩, ht _ tw_223⟩ ⟨PW_blind, fun U hU hW => PW_mk hPc hDc hK hU hW⟩ rfl rfl hl.1 rfl (lv_room (Nat.le_of_ble_eq_true rfl)) dX5_sellHole_26 ⟨Nat.zero_le _, Nat.zero_le _⟩) hS (fun q _ h => hFc q h) hFc (fun u t H1 locs ht1 hvm hf hB hz1 hk1 hS => ?_)
    obtain ⟨f_4, rfl⟩ : ∃ z, z = u := ⟨_, rfl⟩
    rw [ht1] at hB
    obtain ⟨hP, hD⟩ := cj [2] (wI cI (q0 2) 5 (s0_3.2.1 1)) (wI cI (q0 2) 5 f_4) hP hD rfl rfl hk1 hB
    generalize H1 = H at hP hS ⊢
    obtain ⟨s0_5, es0_5⟩ : ∃ y : CS, y = sF s0_3 1 f_4 := ⟨_, rfl⟩
    have hf := hf s0_5 es0_5
    have hP : va_P D classes (wW cI cZ q0 s0_5) H := by rw [es0_5]; exact hP
    have hD : va_D A (wW cI cZ q0 s0_5) := by rw [es0_5]; exact hD
    refine lv_aload_n hx hb dX5_sellHole_29 rfl (lv_at hl 1 rfl) ?_
    refine va_get (D := D) (ci := 3) (v := .ref (q0 3)) (C := RX5) (T := TX5) (N := 6) hx hb ht inX5 hown hK hP 0 rfl rfl 2 (by decide) (ht _ tw_94) (fun _ h9 => h9) rfl dX5_sellHole_30 ?_
    refine lv_iload_n hx hb dX5_sellHole_33 rfl (lv_at hl 2 rfl) ?_
    have hPc : va_P D classes (wI cI (q0 3) 5 (s0_5.2.1 2)) H := hP.sub [3] rfl
    refine vp_callSi (W.runS (As := [.ref (q0 3), .int p0]) (rest := []) ⟨hx, hb, hml, hown, hts⟩ (c_X3_get l D cI cZ cW (q0 3) p0 5 (s0_5.2.1 2) _ hf) ⟨callB_of 2 hts (gA tw_235) rfl rfl rfl (ht _ tw_8) (ht _ tw_342) hd_X3_get ⟨Nat.le_of_ble_eq_true rfl, Nat.le_of_ble_eq_true rfl⟩, ht _ tw_234⟩ ⟨PR_blind, fun U hU hW => PR_mk hPc hK hU hW⟩ rfl rfl hl.1 rfl (lv_room (Nat.le_of_ble_eq_true rfl)) dX5_sellHole_34 ⟨Nat.zero_le _, Nat.zero_le _⟩) (fun r_6 hf => ?_)
    refine lv_iload_n hx hb dX5_sellHole_37 rfl (lv_at hl 3 rfl) ?_
    refine lv_icmp_ne (tgt := 51) hx hb dX5_sellHole_38 (by decide) (fun c_7 => ?_) (fun c_7 => ?_)
    · have hf := hf.1 c_7
      refine lv_iload_n hx hb dX5_sellHole_51 rfl (lv_at hl 0 rfl) ?_
      exact W.iret (v := r_1) hx hb hr (fun t ht hW => ⟨⟨r_1, s0_5, rfl, hf, P_heap ht hP⟩, hS.F ht⟩) hS.2.2 dX5_sellHole_52
    · have hf := hf.2 c_7
      refine lv_aload_n hx hb dX5_sellHole_41 rfl (lv_at hl 1 rfl) ?_
      refine va_get (D := D) (ci := 3) (v := .ref (q0 3)) (C := RX5) (T := TX5) (N := 6) hx hb ht inX5 hown hK hP 0 rfl rfl 2 (by decide) (ht _ tw_94) (fun _ h9 => h9) rfl dX5_sellHole_42 ?_
      refine lv_iload_n hx hb dX5_sellHole_45 rfl (lv_at hl 2 rfl) ?_
      refine lv_bipush (v := (-9 : Int32)) hx hb dX5_sellHole_46 (by decide) ?_
      have hPc : va_P D classes (wI cI (q0 3) 5 (s0_5.2.1 2)) H := hP.sub [3] rfl
      have hDc : va_D A (wI cI (q0 3) 5 (s0_5.2.1 2)) := hD.sub [3] (by decide) rfl
      have hFc := va_free (wc := (wI cI (q0 3) 5 (s0_5.2.1 2))) hD hS hA [3] rfl
      refine va_callv (va_runS (As := [.ref (q0 3), .int p0, .int (-9 : Int32)]) (rest := []) ⟨hx, hb, hml, hown, hts⟩ (c_X3_put l D cI cZ cW (q0 3) H.size p0 (-9 : Int32) 5 (s0_5.2.1 2) _ hf) ⟨callB_of 3 hts (gA tw_224) rfl rfl rfl (ht _ tw_8) (ht _ tw_403) hd_X3_put ⟨Nat.le_of_ble_eq_true rfl, Nat.le_of_ble_eq_true rfl⟩, ht _ tw_223⟩ ⟨PW_blind, fun U hU hW => PW_mk hPc hDc hK hU hW⟩ rfl rfl hl.1 rfl (lv_room (Nat.le_of_ble_eq_true rfl)) dX5_sellHole_48 ⟨Nat.zero_le _, Nat.zero_le _⟩) hS (fun q _ h => hFc q h) hFc (fun u t H1 locs ht1 hvm hf hB hz1 hk1 hS => ?_)
      obtain ⟨f_8, rfl⟩ : ∃ z, z = u := ⟨_, rfl⟩
      rw [ht1] at hB
      obtain ⟨hP, hD⟩ := cj [3] (wI cI (q0 3) 5 (s0_5.2.1 2)) (wI cI (q0 3) 5 f_8) hP hD rfl rfl hk1 hB
      generalize H1 = H at hP hS ⊢
      obtain ⟨s0_9, es0_9⟩ : ∃ y : CS, y = sF s0_5 2 f_8 := ⟨_, rfl⟩
      have hf := hf s0_9 es0_9
      have hP : va_P D classes (wW cI cZ q0 s0_9) H := by rw [es0_9]; exact hP
      have hD : va_D A (wW cI cZ q0 s0_9) := by rw [es0_9]; exact hD
      refine lv_iload_n hx hb dX5_sellHole_51 rfl (lv_at hl 0 rfl) ?_
      exact W.iret (v := r_1) hx hb hr (fun t ht hW => ⟨⟨r_1, s0_9, rfl, hf, P_heap ht hP⟩, hS.F ht⟩) hS.2.2 dX5_sellHole_52
  exact start s.heap [] hP hD hS
def wp_X5_doTold (p1 : Int32) (s0 : CS) (s1 : CS) (Q : Int32 → CS → CS → Prop) : Prop := ∀ x3_1 : Int32, x3_1 = ((p1 / (100 : Int32)) - (p1 / (100 : Int32)) / (10 : Int32) * (10 : Int32)) → ∀ x4_2 : Int32, x4_2 = (p1 - p1 / (100 : Int32) * (100 : Int32)) → (((p1 / (1000 : Int32)) = (0 : Int32) → ((p1 = 0 → wp_X5_passDay s0 s1 (fun r_7 s0_5 s1_6 => Q (1 : Int32) s0_5 s1_6)) ∧ (¬ p1 = 0 → Q (0 : Int32) s0 s1))) ∧ (¬ (p1 / (1000 : Int32)) = (0 : Int32) → (((p1 / (1000 : Int32)) = (1 : Int32) → wp_X5_refusalToEat x3_1 x4_2 s0 s1 (fun r_9 => ((r_9 = 0 → wp_X5_eatCell x3_1 x4_2 s0 s1 (fun r_13 s0_11 s1_12 => Q (1 : Int32) s0_11 s1_12)) ∧ (¬ r_9 = 0 → Q (0 : Int32) s0 s1)))) ∧ (¬ (p1 / (1000 : Int32)) = (1 : Int32) → (((p1 / (1000 : Int32)) = (2 : Int32) → wp_X5_refusalToLet x3_1 x4_2 s0 s1 (fun r_15 => ((r_15 = 0 → wp_X5_letHole x3_1 x4_2 s0 (fun r_18 s0_17 => Q (1 : Int32) s0_17 s1)) ∧ (¬ r_15 = 0 → Q (0 : Int32) s0 s1)))) ∧ (¬ (p1 / (1000 : Int32)) = (2 : Int32) → (((p1 / (1000 : Int32)) = (3 : Int32) → wp_X5_refusalToSell x3_1 x4_2 s0 s1 (fun r_20 => ((r_20 = 0 → wp_X5_sellHole x3_1 x4_2 s0 (fun r_23 s0_22 => Q (1 : Int32) s0_22 s1)) ∧ (¬ r_20 = 0 → Q (0 : Int32) s0 s1)))) ∧ (¬ (p1 / (1000 : Int32)) = (3 : Int32) → Q (0 : Int32) s0 s1))))))))
set_option maxHeartbeats 4000000 in
set_option maxRecDepth 100000 in
theorem c_X5_doTold (l : Launch) (D : va_G) (cI cZ cW : ClassId) (q0 : Nat → Nat) (q1 : Nat → Nat) (sz : Nat) (p1 : Int32) (s0 : CS) (s1 : CS) (Q : Int32 → CS → CS → Prop) (hf : wp_X5_doTold p1 s0 s1 Q) : Met l yX5_doTold (wsA yX5_doTold cX5_doTold 5 (some .boolean)) ({ frames := 5, cells := 0, slots := 0, locals := 115 }) (PW D cI cZ cW [.ref (q0 0), .ref (q1 0), .int p1] (wW cI cZ q0 s0 ++ wD cI cZ q1 s1) sz) (va_Qi (fun (r : Int32) (u : CS × CS) => Q r u.1 u.2) (fun u t => va_P D classes (wW cI cZ q0 u.1 ++ wD cI cZ q1 u.2) t.heap) (va_A (wW cI cZ q0 s0 ++ wD cI cZ q1 s1) sz)) 0 0 (va_A (wW cI cZ q0 s0 ++ wD cI cZ q1 s1) sz) := by
  refine Met.ofW (cc := cX5_doTold) (maxL := 5) (ret := (some .boolean)) (by decide) rfl ?_
  intro p e s m args below meth c s₁ B hml hv
  obtain ⟨rfl, hsz, hP, hK, hD0⟩ := hv
  have hx := B.exec
  have hb := B.bytes
  have hr := B.returns
  have hts := atoms_spec (ws := (wsA yX5_doTold cX5_doTold 5 (some .boolean))) B.pre
  have ht : ∀ w ∈ lw_g, w.before _ s = true := fun w h => hts w (List.mem_cons_of_mem _ h)
  have hown : s.vm.findClass RX5 = some m.cls := findClass_of_methodNamed B.named
  have hlocks := B.notSynchronized
  subst hsz
  have hD := hD0.self (sz := s.heap.size)
  generalize hAe : va_A (wW cI cZ q0 s0 ++ wD cI cZ q1 s1) s.heap.size = A at hD ⊢
  have hA : ∀ q : Nat, s.heap.size ≤ q → A q := fun q h => by rw [← hAe]; exact Or.inr h
  have hS : va_S A s.heap s.heap [] := va_S.rf
  have hl := lv_entry ([.ref (q0 0), .ref (q1 0), .int p1]) (n := 5) (Nat.le_of_ble_eq_true rfl)
  rw [lg_entry_eq]
  generalize (lg_sl ([.ref (q0 0), .ref (q1 0), .int p1]) ++ List.replicate (5 - (lg_sl ([.ref (q0 0), .ref (q1 0), .int p1])).length) Slot.unset).toArray = ls at hl ⊢
  have hl : lv_has ls 5 [(0, .ref (q0 0)), (1, .ref (q1 0)), (2, .int p1)] := hl
  unfold wp_X5_doTold at hf
  have start : ∀ (H : Heap) (locs : List Loc), va_P D classes (wW cI cZ q0 s0 ++ wD cI cZ q1 s1) H → va_D A (wW cI cZ q0 s0 ++ wD cI cZ q1 s1) → va_S A s.heap H locs → W p l e (headSpec (wsA yX5_doTold cX5_doTold 5 (some .boolean)) ({ frames := 5, cells := 0, slots := 0, locals := 115 })).room s m (#[.ref (q0 0), .ref (q1 0), .int p1] : Array Value) below meth c H locs 0 0 (MQ below (va_Qi (fun (r : Int32) (u : CS × CS) => Q r u.1 u.2) (fun u t => va_P D classes (wW cI cZ q0 u.1 ++ wD cI cZ q1 u.2) t.heap) A) (#[.ref (q0 0), .ref (q1 0), .int p1] : Array Value) s 0 0 A) (F0 m 0 ls []) := by
    intro H locs hP hD hS
    refine lv_iload_n hx hb dX5_doTold_0 rfl (lv_at hl 2 rfl) ?_
    refine lv_bipush (v := (100 : Int32)) hx hb dX5_doTold_1 (by decide) ?_
    refine lv_idiv hx hb dX5_doTold_3 (by decide) ?_
    refine lv_bipush (v := (10 : Int32)) hx hb dX5_doTold_4 (by decide) ?_
    refine lv_irem hx hb dX5_doTold_6 (by decide) ?_
    refine lv_topi (fun x3_1 ex3_1 => ?_)
    have hf := hf x3_1 ex3_1
    refine lv_istore_n (lv' := [(3, .int x3_1), (0, .ref (q0 0)), (1, .ref (q1 0)), (2, .int p1)]) hx hb dX5_doTold_7 rfl hl (by decide) rfl (fun ls hl => ?_)
    refine lv_iload_n hx hb dX5_doTold_8 rfl (lv_at hl 3 rfl) ?_
    refine lv_bipush (v := (100 : Int32)) hx hb dX5_doTold_9 (by decide) ?_
    refine lv_irem hx hb dX5_doTold_11 (by decide) ?_
    refine lv_topi (fun x4_2 ex4_2 => ?_)
    have hf := hf x4_2 ex4_2
    refine lv_istore (lv' := [(4, .int x4_2), (3, .int x3_1), (0, .ref (q0 0)), (1, .ref (q1 0)), (2, .int p1)]) hx hb dX5_doTold_12 hl (by decide) rfl (fun ls hl => ?_)
    refine lv_iload_n hx hb dX5_doTold_14 rfl (lv_at hl 4 rfl) ?_
    refine lv_sipush (v := (1000 : Int32)) hx hb dX5_doTold_15 (by decide) ?_
    refine lv_idiv hx hb dX5_doTold_18 (by decide) ?_
    by_cases c_3 : (p1 / (1000 : Int32)) = (0 : Int32)
    · have hf := hf.1 c_3
      refine lv_tableIn (off := 29) (tgt := 48) hx hb dX5_doTold_19 (by rw [c_3]; decide) (by rw [c_3]; decide) (by rw [c_3]; first | done | rfl) (by decide) ?_
      refine lv_iload_n hx hb dX5_doTold_48 rfl (lv_at hl 4 rfl) ?_
      refine lv_if_eq (tgt := 54) hx hb dX5_doTold_49 (by decide) (fun c_4 => ?_) (fun c_4 => ?_)
      · have hf := hf.1 c_4
        refine lv_aload_n hx hb dX5_doTold_54 rfl (lv_at hl 2 rfl) ?_
        refine lv_aload_n hx hb dX5_doTold_55 rfl (lv_at hl 3 rfl) ?_
        have hPc : va_P D classes (wW cI cZ q0 s0 ++ wD cI cZ q1 s1) H := hP
        have hDc : va_D A (wW cI cZ q0 s0 ++ wD cI cZ q1 s1) := hD
        have hFc := va_free (wc := (wW cI cZ q0 s0 ++ wD cI cZ q1 s1)) hD hS hA [0, 1, 2, 3, 4, 5, 6, 7, 8, 9, 10] rfl
        refine va_calli (va_runV (As := [.ref (q1 0)]) (rest := []) ⟨hx, hb, hml, hown, hts⟩ (c_X5_passDay l D cI cZ cW q0 q1 H.size s0 s1 _ hf) ⟨callB_of 1 hts (gA tw_369) rfl rfl rfl (ht _ tw_4) (ht _ tw_528) hd_X5_passDay ⟨Nat.le_of_ble_eq_true rfl, Nat.le_of_ble_eq_true rfl⟩, ht _ tw_367, ht _ tw_368⟩ ⟨PW_blind, va_recv hK hP (ci := 3) (q0 := 0) rfl rfl, fun U hU hW => PW_mk hPc hDc hK hU hW⟩ rfl rfl hl.1 rfl (lv_room (Nat.le_of_ble_eq_true rfl)) dX5_doTold_56 ⟨Nat.zero_le _, Nat.zero_le _⟩) hS (fun q _ h => hFc q h) hFc (fun r_7 u t H1 locs ht1 hvm hf hB hz1 hk1 hS => ?_)
        obtain ⟨s0_5, s1_6⟩ := u
        dsimp only at hf hB
        rw [ht1] at hB
        obtain ⟨hP, hD⟩ := cj [0, 1, 2, 3, 4, 5, 6, 7, 8, 9, 10] (wW cI cZ q0 s0 ++ wD cI cZ q1 s1) (wW cI cZ q0 s0_5 ++ wD cI cZ q1 s1_6) hP hD rfl rfl hk1 hB
        generalize H1 = H at hP hS ⊢
        have hP : va_P D classes (wW cI cZ q0 s0_5 ++ wD cI cZ q1 s1_6) H := hP
        have hD : va_D A (wW cI cZ q0 s0_5 ++ wD cI cZ q1 s1_6) := hD
        refine lv_pop hx hb dX5_doTold_59 rfl ?_
        refine lv_iconst (v := (1 : Int32)) hx hb dX5_doTold_60 (by decide) ?_
        exact W.zret (v := (1 : Int32)) hx hb hr rfl (fun t ht hW => ⟨⟨(1 : Int32), (s0_5, s1_6), rfl, hf, P_heap ht hP⟩, hS.F ht⟩) hS.2.2 dX5_doTold_61
      · have hf := hf.2 c_4
        refine lv_iconst (v := (0 : Int32)) hx hb dX5_doTold_52 (by decide) ?_
        exact W.zret (v := (0 : Int32)) hx hb hr rfl (fun t ht hW => ⟨⟨(0 : Int32), (s0, s1), rfl, hf, P_heap ht hP⟩, hS.F ht⟩) hS.2.2 dX5_doTold_53
    · have hf := hf.2 c_3
      by_cases c_8 : (p1 / (1000 : Int32)) = (1 : Int32)
      · have hf := hf.1 c_8
        refine lv_tableIn (off := 43) (tgt := 62) hx hb dX5_doTold_19 (by rw [c_8]; decide) (by rw [c_8]; decide) (by rw [c_8]; first | done | rfl) (by decide) ?_
        refine lv_aload_n hx hb dX5_doTold_62 rfl (lv_at hl 2 rfl) ?_
        refine lv_aload_n hx hb dX5_doTold_63 rfl (lv_at hl 3 rfl) ?_
        refine lv_iload_n hx hb dX5_doTold_64 rfl (lv_at hl 1 rfl) ?_
        refine lv_iload hx hb dX5_doTold_65 (lv_at hl 0 rfl) ?_
        have hPc : va_P D classes (wW cI cZ q0 s0 ++ wD cI cZ q1 s1) H := hP
        refine vp_callSi (W.runV (As := [.ref (q1 0), .int x3_1, .int x4_2]) (rest := []) ⟨hx, hb, hml, hown, hts⟩ (c_X5_refusalToEat l D cI cZ cW q0 q1 x3_1 x4_2 s0 s1 _ hf) ⟨callB_of 3 hts (gA tw_428) rfl rfl rfl (ht _ tw_4) (ht _ tw_529) hd_X5_refusalToEat ⟨Nat.le_of_ble_eq_true rfl, Nat.le_of_ble_eq_true rfl⟩, ht _ tw_426, ht _ tw_427⟩ ⟨PR_blind, va_recv hK hP (ci := 3) (q0 := 0) rfl rfl, fun U hU hW => PR_mk hPc hK hU hW⟩ rfl rfl hl.1 rfl (lv_room (Nat.le_of_ble_eq_true rfl)) dX5_doTold_67 ⟨Nat.zero_le _, Nat.zero_le _⟩) (fun r_9 hf => ?_)
        refine lv_if_eq (tgt := 75) hx hb dX5_doTold_70 (by decide) (fun c_10 => ?_) (fun c_10 => ?_)
        · have hf := hf.1 c_10
          refine lv_aload_n hx hb dX5_doTold_75 rfl (lv_at hl 2 rfl) ?_
          refine lv_aload_n hx hb dX5_doTold_76 rfl (lv_at hl 3 rfl) ?_
          refine lv_iload_n hx hb dX5_doTold_77 rfl (lv_at hl 1 rfl) ?_
          refine lv_iload hx hb dX5_doTold_78 (lv_at hl 0 rfl) ?_
          have hPc : va_P D classes (wW cI cZ q0 s0 ++ wD cI cZ q1 s1) H := hP
          have hDc : va_D A (wW cI cZ q0 s0 ++ wD cI cZ q1 s1) := hD
          have hFc := va_free (wc := (wW cI cZ q0 s0 ++ wD cI cZ q1 s1)) hD hS hA [0, 1, 2, 3, 4, 5, 6, 7, 8, 9, 10] rfl
          refine va_calli (va_runV (As := [.ref (q1 0), .int x3_1, .int x4_2]) (rest := []) ⟨hx, hb, hml, hown, hts⟩ (c_X5_eatCell l D cI cZ cW q0 q1 H.size x3_1 x4_2 s0 s1 _ hf) ⟨callB_of 3 hts (gA tw_433) rfl rfl rfl (ht _ tw_4) (ht _ tw_530) hd_X5_eatCell ⟨Nat.le_of_ble_eq_true rfl, Nat.le_of_ble_eq_true rfl⟩, ht _ tw_431, ht _ tw_432⟩ ⟨PW_blind, va_recv hK hP (ci := 3) (q0 := 0) rfl rfl, fun U hU hW => PW_mk hPc hDc hK hU hW⟩ rfl rfl hl.1 rfl (lv_room (Nat.le_of_ble_eq_true rfl)) dX5_doTold_80 ⟨Nat.zero_le _, Nat.zero_le _⟩) hS (fun q _ h => hFc q h) hFc (fun r_13 u t H1 locs ht1 hvm hf hB hz1 hk1 hS => ?_)
          obtain ⟨s0_11, s1_12⟩ := u
          dsimp only at hf hB
          rw [ht1] at hB
          obtain ⟨hP, hD⟩ := cj [0, 1, 2, 3, 4, 5, 6, 7, 8, 9, 10] (wW cI cZ q0 s0 ++ wD cI cZ q1 s1) (wW cI cZ q0 s0_11 ++ wD cI cZ q1 s1_12) hP hD rfl rfl hk1 hB
          generalize H1 = H at hP hS ⊢
          have hP : va_P D classes (wW cI cZ q0 s0_11 ++ wD cI cZ q1 s1_12) H := hP
          have hD : va_D A (wW cI cZ q0 s0_11 ++ wD cI cZ q1 s1_12) := hD
          refine lv_pop hx hb dX5_doTold_83 rfl ?_
          refine lv_iconst (v := (1 : Int32)) hx hb dX5_doTold_84 (by decide) ?_
          exact W.zret (v := (1 : Int32)) hx hb hr rfl (fun t ht hW => ⟨⟨(1 : Int32), (s0_11, s1_12), rfl, hf, P_heap ht hP⟩, hS.F ht⟩) hS.2.2 dX5_doTold_85
        · have hf := hf.2 c_10
          refine lv_iconst (v := (0 : Int32)) hx hb dX5_doTold_73 (by decide) ?_
          exact W.zret (v := (0 : Int32)) hx hb hr rfl (fun t ht hW => ⟨⟨(0 : Int32), (s0, s1), rfl, hf, P_heap ht hP⟩, hS.F ht⟩) hS.2.2 dX5_doTold_74
      · have hf := hf.2 c_8
        by_cases c_14 : (p1 / (1000 : Int32)) = (2 : Int32)
        · have hf := hf.1 c_14
          refine lv_tableIn (off := 67) (tgt := 86) hx hb dX5_doTold_19 (by rw [c_14]; decide) (by rw [c_14]; decide) (by rw [c_14]; first | done | rfl) (by decide) ?_
          refine lv_aload_n hx hb dX5_doTold_86 rfl (lv_at hl 2 rfl) ?_
          refine lv_aload_n hx hb dX5_doTold_87 rfl (lv_at hl 3 rfl) ?_
          refine lv_iload_n hx hb dX5_doTold_88 rfl (lv_at hl 1 rfl) ?_
          refine lv_iload hx hb dX5_doTold_89 (lv_at hl 0 rfl) ?_
          have hPc : va_P D classes (wW cI cZ q0 s0 ++ wD cI cZ q1 s1) H := hP
          refine vp_callSi (W.runV (As := [.ref (q1 0), .int x3_1, .int x4_2]) (rest := []) ⟨hx, hb, hml, hown, hts⟩ (c_X5_refusalToLet l D cI cZ cW q0 q1 x3_1 x4_2 s0 s1 _ hf) ⟨callB_of 3 hts (gA tw_443) rfl rfl rfl (ht _ tw_4) (ht _ tw_531) hd_X5_refusalToLet ⟨Nat.le_of_ble_eq_true rfl, Nat.le_of_ble_eq_true rfl⟩, ht _ tw_441, ht _ tw_442⟩ ⟨PR_blind, va_recv hK hP (ci := 3) (q0 := 0) rfl rfl, fun U hU hW => PR_mk hPc hK hU hW⟩ rfl rfl hl.1 rfl (lv_room (Nat.le_of_ble_eq_true rfl)) dX5_doTold_91 ⟨Nat.zero_le _, Nat.zero_le _⟩) (fun r_15 hf => ?_)
          refine lv_if_eq (tgt := 99) hx hb dX5_doTold_94 (by decide) (fun c_16 => ?_) (fun c_16 => ?_)
          · have hf := hf.1 c_16
            refine lv_aload_n hx hb dX5_doTold_99 rfl (lv_at hl 2 rfl) ?_
            refine lv_iload_n hx hb dX5_doTold_100 rfl (lv_at hl 1 rfl) ?_
            refine lv_iload hx hb dX5_doTold_101 (lv_at hl 0 rfl) ?_
            have hPc : va_P D classes (wW cI cZ q0 s0) H := hP.sub [0, 1, 2, 3, 4] rfl
            have hDc : va_D A (wW cI cZ q0 s0) := hD.sub [0, 1, 2, 3, 4] (by decide) rfl
            have hFc := va_free (wc := (wW cI cZ q0 s0)) hD hS hA [0, 1, 2, 3, 4] rfl
            refine va_calli (va_runV (As := [.int x3_1, .int x4_2]) (rest := []) ⟨hx, hb, hml, hown, hts⟩ (c_X5_letHole l D cI cZ cW q0 H.size x3_1 x4_2 s0 _ hf) ⟨callB_of 2 hts (gA tw_455) rfl rfl rfl (ht _ tw_4) (ht _ tw_532) hd_X5_letHole ⟨Nat.le_of_ble_eq_true rfl, Nat.le_of_ble_eq_true rfl⟩, ht _ tw_453, ht _ tw_454⟩ ⟨PW_blind, va_recv hK hP (ci := 3) (q0 := 0) rfl rfl, fun U hU hW => PW_mk hPc hDc hK hU hW⟩ rfl rfl hl.1 rfl (lv_room (Nat.le_of_ble_eq_true rfl)) dX5_doTold_103 ⟨Nat.zero_le _, Nat.zero_le _⟩) hS (fun q _ h => hFc q h) hFc (fun r_18 u t H1 locs ht1 hvm hf hB hz1 hk1 hS => ?_)
            obtain ⟨s0_17, rfl⟩ : ∃ z, z = u := ⟨_, rfl⟩
            rw [ht1] at hB
            obtain ⟨hP, hD⟩ := cj [0, 1, 2, 3, 4] (wW cI cZ q0 s0) (wW cI cZ q0 s0_17) hP hD rfl rfl hk1 hB
            generalize H1 = H at hP hS ⊢
            have hP : va_P D classes (wW cI cZ q0 s0_17 ++ wD cI cZ q1 s1) H := hP
            have hD : va_D A (wW cI cZ q0 s0_17 ++ wD cI cZ q1 s1) := hD
            refine lv_pop hx hb dX5_doTold_106 rfl ?_
            refine lv_iconst (v := (1 : Int32)) hx hb dX5_doTold_107 (by decide) ?_
            exact W.zret (v := (1 : Int32)) hx hb hr rfl (fun t ht hW => ⟨⟨(1 : Int32), (s0_17, s1), rfl, hf, P_heap ht hP⟩, hS.F ht⟩) hS.2.2 dX5_doTold_108
          · have hf := hf.2 c_16
            refine lv_iconst (v := (0 : Int32)) hx hb dX5_doTold_97 (by decide) ?_
            exact W.zret (v := (0 : Int32)) hx hb hr rfl (fun t ht hW => ⟨⟨(0 : Int32), (s0, s1), rfl, hf, P_heap ht hP⟩, hS.F ht⟩) hS.2.2 dX5_doTold_98
        · have hf := hf.2 c_14
          by_cases c_19 : (p1 / (1000 : Int32)) = (3 : Int32)
          · have hf := hf.1 c_19
            refine lv_tableIn (off := 90) (tgt := 109) hx hb dX5_doTold_19 (by rw [c_19]; decide) (by rw [c_19]; decide) (by rw [c_19]; first | done | rfl) (by decide) ?_
            refine lv_aload_n hx hb dX5_doTold_109 rfl (lv_at hl 2 rfl) ?_
            refine lv_aload_n hx hb dX5_doTold_110 rfl (lv_at hl 3 rfl) ?_
            refine lv_iload_n hx hb dX5_doTold_111 rfl (lv_at hl 1 rfl) ?_
            refine lv_iload hx hb dX5_doTold_112 (lv_at hl 0 rfl) ?_
            have hPc : va_P D classes (wW cI cZ q0 s0 ++ wD cI cZ q1 s1) H := hP
            refine vp_callSi (W.runV (As := [.ref (q1 0), .int x3_1, .int x4_2]) (rest := []) ⟨hx, hb, hml, hown, hts⟩ (c_X5_refusalToSell l D cI cZ cW q0 q1 x3_1 x4_2 s0 s1 _ hf) ⟨callB_of 3 hts (gA tw_447) rfl rfl rfl (ht _ tw_4) (ht _ tw_444) hd_X5_refusalToSell ⟨Nat.le_of_ble_eq_true rfl, Nat.le_of_ble_eq_true rfl⟩, ht _ tw_445, ht _ tw_446⟩ ⟨PR_blind, va_recv hK hP (ci := 3) (q0 := 0) rfl rfl, fun U hU hW => PR_mk hPc hK hU hW⟩ rfl rfl hl.1 rfl (lv_room (Nat.le_of_ble_eq_true rfl)) dX5_doTold_114 ⟨Nat.zero_le _, Nat.zero_le _⟩) (fun r_20 hf => ?_)
            refine lv_if_eq (tgt := 122) hx hb dX5_doTold_117 (by decide) (fun c_21 => ?_) (fun c_21 => ?_)
            · have hf := hf.1 c_21
              refine lv_aload_n hx hb dX5_doTold_122 rfl (lv_at hl 2 rfl) ?_
              refine lv_iload_n hx hb dX5_doTold_123 rfl (lv_at hl 1 rfl) ?_
              refine lv_iload hx hb dX5_doTold_124 (lv_at hl 0 rfl) ?_
              have hPc : va_P D classes (wW cI cZ q0 s0) H := hP.sub [0, 1, 2, 3, 4] rfl
              have hDc : va_D A (wW cI cZ q0 s0) := hD.sub [0, 1, 2, 3, 4] (by decide) rfl
              have hFc := va_free (wc := (wW cI cZ q0 s0)) hD hS hA [0, 1, 2, 3, 4] rfl
              refine va_calli (va_runV (As := [.int x3_1, .int x4_2]) (rest := []) ⟨hx, hb, hml, hown, hts⟩ (c_X5_sellHole l D cI cZ cW q0 H.size x3_1 x4_2 s0 _ hf) ⟨callB_of 2 hts (gA tw_464) rfl rfl rfl (ht _ tw_4) (ht _ tw_533) hd_X5_sellHole ⟨Nat.le_of_ble_eq_true rfl, Nat.le_of_ble_eq_true rfl⟩, ht _ tw_462, ht _ tw_463⟩ ⟨PW_blind, va_recv hK hP (ci := 3) (q0 := 0) rfl rfl, fun U hU hW => PW_mk hPc hDc hK hU hW⟩ rfl rfl hl.1 rfl (lv_room (Nat.le_of_ble_eq_true rfl)) dX5_doTold_126 ⟨Nat.zero_le _, Nat.zero_le _⟩) hS (fun q _ h => hFc q h) hFc (fun r_23 u t H1 locs ht1 hvm hf hB hz1 hk1 hS => ?_)
              obtain ⟨s0_22, rfl⟩ : ∃ z, z = u := ⟨_, rfl⟩
              rw [ht1] at hB
              obtain ⟨hP, hD⟩ := cj [0, 1, 2, 3, 4] (wW cI cZ q0 s0) (wW cI cZ q0 s0_22) hP hD rfl rfl hk1 hB
              generalize H1 = H at hP hS ⊢
              have hP : va_P D classes (wW cI cZ q0 s0_22 ++ wD cI cZ q1 s1) H := hP
              have hD : va_D A (wW cI cZ q0 s0_22 ++ wD cI cZ q1 s1) := hD
              refine lv_pop hx hb dX5_doTold_129 rfl ?_
              refine lv_iconst (v := (1 : Int32)) hx hb dX5_doTold_130 (by decide) ?_
              exact W.zret (v := (1 : Int32)) hx hb hr rfl (fun t ht hW => ⟨⟨(1 : Int32), (s0_22, s1), rfl, hf, P_heap ht hP⟩, hS.F ht⟩) hS.2.2 dX5_doTold_131
            · have hf := hf.2 c_21
              refine lv_iconst (v := (0 : Int32)) hx hb dX5_doTold_120 (by decide) ?_
              exact W.zret (v := (0 : Int32)) hx hb hr rfl (fun t ht hW => ⟨⟨(0 : Int32), (s0, s1), rfl, hf, P_heap ht hP⟩, hS.F ht⟩) hS.2.2 dX5_doTold_121
          · have hf := hf.2 c_19
            refine lv_tableOut (tgt := 132) hx hb dX5_doTold_19 (by have h0 := lv_neT (a := 0) c_3 (by decide); have h1 := lv_neT (a := 1) c_8 (by decide); have h2 := lv_neT (a := 2) c_14 (by decide); have h3 := lv_neT (a := 3) c_19 (by decide); omega) (by decide) ?_
            refine lv_iconst (v := (0 : Int32)) hx hb dX5_doTold_132 (by decide) ?_
            exact W.zret (v := (0 : Int32)) hx hb hr rfl (fun t ht hW => ⟨⟨(0 : Int32), (s0, s1), rfl, hf, P_heap ht hP⟩, hS.F ht⟩) hS.2.2 dX5_doTold_133
  exact start s.heap [] hP hD hS
