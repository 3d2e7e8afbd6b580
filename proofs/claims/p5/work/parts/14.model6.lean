theorem dX7_taste_0 : decode cX7_taste 0 = .ok (.iload_n 1, 1) := by decide +kernel
theorem dX7_taste_1 : decode cX7_taste 1 = .ok (.invokestatic 166, 3) := by decide +kernel
theorem dX7_taste_4 : decode cX7_taste 4 = .ok (.ifCond .ne 5, 3) := by decide +kernel
theorem dX7_taste_7 : decode cX7_taste 7 = .ok (.iconst (-1), 1) := by decide +kernel
theorem dX7_taste_8 : decode cX7_taste 8 = .ok (.ireturn, 1) := by decide +kernel
theorem dX7_taste_9 : decode cX7_taste 9 = .ok (.iload_n 2, 1) := by decide +kernel
theorem dX7_taste_10 : decode cX7_taste 10 = .ok (.i2l, 1) := by decide +kernel
theorem dX7_taste_11 : decode cX7_taste 11 = .ok (.lconst 0, 1) := by decide +kernel
theorem dX7_taste_12 : decode cX7_taste 12 = .ok (.ldc2_w 222, 3) := by decide +kernel
theorem dX7_taste_15 : decode cX7_taste 15 = .ok (.invokestatic 58, 3) := by decide +kernel
theorem dX7_taste_18 : decode cX7_taste 18 = .ok (.ifCond .eq 13, 3) := by decide +kernel
theorem dX7_taste_21 : decode cX7_taste 21 = .ok (.iload_n 3, 1) := by decide +kernel
theorem dX7_taste_22 : decode cX7_taste 22 = .ok (.i2l, 1) := by decide +kernel
theorem dX7_taste_23 : decode cX7_taste 23 = .ok (.lconst 0, 1) := by decide +kernel
theorem dX7_taste_24 : decode cX7_taste 24 = .ok (.lconst 1, 1) := by decide +kernel
theorem dX7_taste_25 : decode cX7_taste 25 = .ok (.invokestatic 58, 3) := by decide +kernel
theorem dX7_taste_28 : decode cX7_taste 28 = .ok (.ifCond .ne 6, 3) := by decide +kernel
theorem dX7_taste_31 : decode cX7_taste 31 = .ok (.bipush (-2), 2) := by decide +kernel
theorem dX7_taste_33 : decode cX7_taste 33 = .ok (.ireturn, 1) := by decide +kernel
theorem dX7_taste_34 : decode cX7_taste 34 = .ok (.aload_n 0, 1) := by decide +kernel
theorem dX7_taste_35 : decode cX7_taste 35 = .ok (.getfield 224, 3) := by decide +kernel
theorem dX7_taste_38 : decode cX7_taste 38 = .ok (.bipush 6, 2) := by decide +kernel
theorem dX7_taste_40 : decode cX7_taste 40 = .ok (.if_icmp .ne 6, 3) := by decide +kernel
theorem dX7_taste_43 : decode cX7_taste 43 = .ok (.bipush (-4), 2) := by decide +kernel
theorem dX7_taste_45 : decode cX7_taste 45 = .ok (.ireturn, 1) := by decide +kernel
theorem dX7_taste_46 : decode cX7_taste 46 = .ok (.aload_n 0, 1) := by decide +kernel
theorem dX7_taste_47 : decode cX7_taste 47 = .ok (.getfield 40, 3) := by decide +kernel
theorem dX7_taste_50 : decode cX7_taste 50 = .ok (.aload_n 0, 1) := by decide +kernel
theorem dX7_taste_51 : decode cX7_taste 51 = .ok (.getfield 224, 3) := by decide +kernel
theorem dX7_taste_54 : decode cX7_taste 54 = .ok (.iload_n 1, 1) := by decide +kernel
theorem dX7_taste_55 : decode cX7_taste 55 = .ok (.iastore, 1) := by decide +kernel
theorem dX7_taste_56 : decode cX7_taste 56 = .ok (.aload_n 0, 1) := by decide +kernel
theorem dX7_taste_57 : decode cX7_taste 57 = .ok (.getfield 43, 3) := by decide +kernel
theorem dX7_taste_60 : decode cX7_taste 60 = .ok (.aload_n 0, 1) := by decide +kernel
theorem dX7_taste_61 : decode cX7_taste 61 = .ok (.getfield 224, 3) := by decide +kernel
theorem dX7_taste_64 : decode cX7_taste 64 = .ok (.iload_n 2, 1) := by decide +kernel
theorem dX7_taste_65 : decode cX7_taste 65 = .ok (.iastore, 1) := by decide +kernel
theorem dX7_taste_66 : decode cX7_taste 66 = .ok (.aload_n 0, 1) := by decide +kernel
theorem dX7_taste_67 : decode cX7_taste 67 = .ok (.getfield 46, 3) := by decide +kernel
theorem dX7_taste_70 : decode cX7_taste 70 = .ok (.aload_n 0, 1) := by decide +kernel
theorem dX7_taste_71 : decode cX7_taste 71 = .ok (.getfield 224, 3) := by decide +kernel
theorem dX7_taste_74 : decode cX7_taste 74 = .ok (.iload_n 3, 1) := by decide +kernel
theorem dX7_taste_75 : decode cX7_taste 75 = .ok (.iastore, 1) := by decide +kernel
theorem dX7_taste_76 : decode cX7_taste 76 = .ok (.aload_n 0, 1) := by decide +kernel
theorem dX7_taste_77 : decode cX7_taste 77 = .ok (.dup, 1) := by decide +kernel
theorem dX7_taste_78 : decode cX7_taste 78 = .ok (.getfield 224, 3) := by decide +kernel
theorem dX7_taste_81 : decode cX7_taste 81 = .ok (.iconst 1, 1) := by decide +kernel
theorem dX7_taste_82 : decode cX7_taste 82 = .ok (.iadd, 1) := by decide +kernel
theorem dX7_taste_83 : decode cX7_taste 83 = .ok (.putfield 224, 3) := by decide +kernel
theorem dX7_taste_86 : decode cX7_taste 86 = .ok (.aload_n 0, 1) := by decide +kernel
theorem dX7_taste_87 : decode cX7_taste 87 = .ok (.getfield 224, 3) := by decide +kernel
theorem dX7_taste_90 : decode cX7_taste 90 = .ok (.ireturn, 1) := by decide +kernel
theorem dX7_rinse_0 : decode cX7_rinse 0 = .ok (.aload_n 0, 1) := by decide +kernel
theorem dX7_rinse_1 : decode cX7_rinse 1 = .ok (.getfield 224, 3) := by decide +kernel
theorem dX7_rinse_4 : decode cX7_rinse 4 = .ok (.istore_n 1, 1) := by decide +kernel
theorem dX7_rinse_5 : decode cX7_rinse 5 = .ok (.aload_n 0, 1) := by decide +kernel
theorem dX7_rinse_6 : decode cX7_rinse 6 = .ok (.iconst 0, 1) := by decide +kernel
theorem dX7_rinse_7 : decode cX7_rinse 7 = .ok (.putfield 224, 3) := by decide +kernel
theorem dX7_rinse_10 : decode cX7_rinse 10 = .ok (.iload_n 1, 1) := by decide +kernel
theorem dX7_rinse_11 : decode cX7_rinse 11 = .ok (.ireturn, 1) := by decide +kernel
theorem dX7_mayBegin_0 : decode cX7_mayBegin 0 = .ok (.iconst 1, 1) := by decide +kernel
theorem dX7_mayBegin_1 : decode cX7_mayBegin 1 = .ok (.iload_n 2, 1) := by decide +kernel
theorem dX7_mayBegin_2 : decode cX7_mayBegin 2 = .ok (.ishl, 1) := by decide +kernel
theorem dX7_mayBegin_3 : decode cX7_mayBegin 3 = .ok (.istore_n 3, 1) := by decide +kernel
theorem dX7_mayBegin_4 : decode cX7_mayBegin 4 = .ok (.iconst 1, 1) := by decide +kernel
theorem dX7_mayBegin_5 : decode cX7_mayBegin 5 = .ok (.istore 4, 2) := by decide +kernel
theorem dX7_mayBegin_7 : decode cX7_mayBegin 7 = .ok (.iconst 0, 1) := by decide +kernel
theorem dX7_mayBegin_8 : decode cX7_mayBegin 8 = .ok (.istore 5, 2) := by decide +kernel
theorem dX7_mayBegin_10 : decode cX7_mayBegin 10 = .ok (.iload 5, 2) := by decide +kernel
theorem dX7_mayBegin_12 : decode cX7_mayBegin 12 = .ok (.bipush 10, 2) := by decide +kernel
theorem dX7_mayBegin_14 : decode cX7_mayBegin 14 = .ok (.if_icmp .ge 137, 3) := by decide +kernel
theorem dX7_mayBegin_17 : decode cX7_mayBegin 17 = .ok (.iconst 0, 1) := by decide +kernel
theorem dX7_mayBegin_18 : decode cX7_mayBegin 18 = .ok (.istore 6, 2) := by decide +kernel
theorem dX7_mayBegin_20 : decode cX7_mayBegin 20 = .ok (.iload 6, 2) := by decide +kernel
theorem dX7_mayBegin_22 : decode cX7_mayBegin 22 = .ok (.aload_n 0, 1) := by decide +kernel
theorem dX7_mayBegin_23 : decode cX7_mayBegin 23 = .ok (.getfield 224, 3) := by decide +kernel
theorem dX7_mayBegin_26 : decode cX7_mayBegin 26 = .ok (.if_icmp .ge 63, 3) := by decide +kernel
theorem dX7_mayBegin_29 : decode cX7_mayBegin 29 = .ok (.iload 4, 2) := by decide +kernel
theorem dX7_mayBegin_31 : decode cX7_mayBegin 31 = .ok (.ifCond .eq 49, 3) := by decide +kernel
theorem dX7_mayBegin_34 : decode cX7_mayBegin 34 = .ok (.aload_n 0, 1) := by decide +kernel
theorem dX7_mayBegin_35 : decode cX7_mayBegin 35 = .ok (.getfield 43, 3) := by decide +kernel
theorem dX7_mayBegin_38 : decode cX7_mayBegin 38 = .ok (.iload 6, 2) := by decide +kernel
theorem dX7_mayBegin_40 : decode cX7_mayBegin 40 = .ok (.iaload, 1) := by decide +kernel
theorem dX7_mayBegin_41 : decode cX7_mayBegin 41 = .ok (.iload 5, 2) := by decide +kernel
theorem dX7_mayBegin_43 : decode cX7_mayBegin 43 = .ok (.if_icmp .ne 33, 3) := by decide +kernel
theorem dX7_mayBegin_46 : decode cX7_mayBegin 46 = .ok (.iload_n 3, 1) := by decide +kernel
theorem dX7_mayBegin_47 : decode cX7_mayBegin 47 = .ok (.aload_n 0, 1) := by decide +kernel
theorem dX7_mayBegin_48 : decode cX7_mayBegin 48 = .ok (.getfield 40, 3) := by decide +kernel
theorem dX7_mayBegin_51 : decode cX7_mayBegin 51 = .ok (.iload 6, 2) := by decide +kernel
theorem dX7_mayBegin_53 : decode cX7_mayBegin 53 = .ok (.iaload, 1) := by decide +kernel
theorem dX7_mayBegin_54 : decode cX7_mayBegin 54 = .ok (.invokestatic 74, 3) := by decide +kernel
theorem dX7_mayBegin_57 : decode cX7_mayBegin 57 = .ok (.aload_n 0, 1) := by decide +kernel
theorem dX7_mayBegin_58 : decode cX7_mayBegin 58 = .ok (.getfield 46, 3) := by decide +kernel
theorem dX7_mayBegin_61 : decode cX7_mayBegin 61 = .ok (.iload 6, 2) := by decide +kernel
theorem dX7_mayBegin_63 : decode cX7_mayBegin 63 = .ok (.iaload, 1) := by decide +kernel
theorem dX7_mayBegin_64 : decode cX7_mayBegin 64 = .ok (.iconst 1, 1) := by decide +kernel
theorem dX7_mayBegin_65 : decode cX7_mayBegin 65 = .ok (.if_icmp .ne 7, 3) := by decide +kernel
theorem dX7_mayBegin_68 : decode cX7_mayBegin 68 = .ok (.iconst 1, 1) := by decide +kernel
theorem dX7_mayBegin_69 : decode cX7_mayBegin 69 = .ok (.goto 4, 3) := by decide +kernel
theorem dX7_mayBegin_72 : decode cX7_mayBegin 72 = .ok (.iconst 0, 1) := by decide +kernel
theorem dX7_mayBegin_73 : decode cX7_mayBegin 73 = .ok (.if_icmp .ne 7, 3) := by decide +kernel
theorem dX7_mayBegin_76 : decode cX7_mayBegin 76 = .ok (.iconst 1, 1) := by decide +kernel
theorem dX7_mayBegin_77 : decode cX7_mayBegin 77 = .ok (.goto 4, 3) := by decide +kernel
theorem dX7_mayBegin_80 : decode cX7_mayBegin 80 = .ok (.iconst 0, 1) := by decide +kernel
theorem dX7_mayBegin_81 : decode cX7_mayBegin 81 = .ok (.istore 4, 2) := by decide +kernel
theorem dX7_mayBegin_83 : decode cX7_mayBegin 83 = .ok (.iinc 6 1, 3) := by decide +kernel
theorem dX7_mayBegin_86 : decode cX7_mayBegin 86 = .ok (.goto (-66), 3) := by decide +kernel
theorem dX7_mayBegin_89 : decode cX7_mayBegin 89 = .ok (.iconst 0, 1) := by decide +kernel
theorem dX7_mayBegin_90 : decode cX7_mayBegin 90 = .ok (.istore 6, 2) := by decide +kernel
theorem dX7_mayBegin_92 : decode cX7_mayBegin 92 = .ok (.iload 6, 2) := by decide +kernel
theorem dX7_mayBegin_94 : decode cX7_mayBegin 94 = .ok (.iload_n 1, 1) := by decide +kernel
theorem dX7_mayBegin_95 : decode cX7_mayBegin 95 = .ok (.iconst 1, 1) := by decide +kernel
theorem dX7_mayBegin_96 : decode cX7_mayBegin 96 = .ok (.if_icmp .ne 7, 3) := by decide +kernel
theorem dX7_mayBegin_99 : decode cX7_mayBegin 99 = .ok (.iconst 2, 1) := by decide +kernel
theorem dX7_mayBegin_100 : decode cX7_mayBegin 100 = .ok (.goto 4, 3) := by decide +kernel
theorem dX7_mayBegin_103 : decode cX7_mayBegin 103 = .ok (.iconst 1, 1) := by decide +kernel
theorem dX7_mayBegin_104 : decode cX7_mayBegin 104 = .ok (.if_icmp .ge 41, 3) := by decide +kernel
theorem dX7_mayBegin_107 : decode cX7_mayBegin 107 = .ok (.aload_n 0, 1) := by decide +kernel
theorem dX7_mayBegin_108 : decode cX7_mayBegin 108 = .ok (.iload_n 3, 1) := by decide +kernel
theorem dX7_mayBegin_109 : decode cX7_mayBegin 109 = .ok (.iload_n 1, 1) := by decide +kernel
theorem dX7_mayBegin_110 : decode cX7_mayBegin 110 = .ok (.ldc 98, 2) := by decide +kernel
theorem dX7_mayBegin_112 : decode cX7_mayBegin 112 = .ok (.iload_n 3, 1) := by decide +kernel
theorem dX7_mayBegin_113 : decode cX7_mayBegin 113 = .ok (.iconst (-1), 1) := by decide +kernel
theorem dX7_mayBegin_114 : decode cX7_mayBegin 114 = .ok (.ixor, 1) := by decide +kernel
theorem dX7_mayBegin_115 : decode cX7_mayBegin 115 = .ok (.iand, 1) := by decide +kernel
theorem dX7_mayBegin_116 : decode cX7_mayBegin 116 = .ok (.invokevirtual 129, 3) := by decide +kernel
theorem dX7_mayBegin_119 : decode cX7_mayBegin 119 = .ok (.istore 7, 2) := by decide +kernel
theorem dX7_mayBegin_121 : decode cX7_mayBegin 121 = .ok (.iload_n 3, 1) := by decide +kernel
theorem dX7_mayBegin_122 : decode cX7_mayBegin 122 = .ok (.iload 7, 2) := by decide +kernel
theorem dX7_mayBegin_124 : decode cX7_mayBegin 124 = .ok (.bipush (-9), 2) := by decide +kernel
theorem dX7_mayBegin_126 : decode cX7_mayBegin 126 = .ok (.if_icmp .ne 7, 3) := by decide +kernel
theorem dX7_mayBegin_129 : decode cX7_mayBegin 129 = .ok (.iconst 0, 1) := by decide +kernel
theorem dX7_mayBegin_130 : decode cX7_mayBegin 130 = .ok (.goto 7, 3) := by decide +kernel
theorem dX7_mayBegin_133 : decode cX7_mayBegin 133 = .ok (.iconst 1, 1) := by decide +kernel
theorem dX7_mayBegin_134 : decode cX7_mayBegin 134 = .ok (.iload 7, 2) := by decide +kernel
theorem dX7_mayBegin_136 : decode cX7_mayBegin 136 = .ok (.ishl, 1) := by decide +kernel
theorem dX7_mayBegin_137 : decode cX7_mayBegin 137 = .ok (.ior, 1) := by decide +kernel
theorem dX7_mayBegin_138 : decode cX7_mayBegin 138 = .ok (.istore_n 3, 1) := by decide +kernel
theorem dX7_mayBegin_139 : decode cX7_mayBegin 139 = .ok (.iinc 6 1, 3) := by decide +kernel
theorem dX7_mayBegin_142 : decode cX7_mayBegin 142 = .ok (.goto (-50), 3) := by decide +kernel
theorem dX7_mayBegin_145 : decode cX7_mayBegin 145 = .ok (.iinc 5 1, 3) := by decide +kernel
theorem dX7_mayBegin_148 : decode cX7_mayBegin 148 = .ok (.goto (-138), 3) := by decide +kernel
theorem dX7_mayBegin_151 : decode cX7_mayBegin 151 = .ok (.iload 4, 2) := by decide +kernel
theorem dX7_mayBegin_153 : decode cX7_mayBegin 153 = .ok (.ireturn, 1) := by decide +kernel
theorem dX7_began_0 : decode cX7_began 0 = .ok (.iload_n 1, 1) := by decide +kernel
theorem dX7_began_1 : decode cX7_began 1 = .ok (.i2l, 1) := by decide +kernel
theorem dX7_began_2 : decode cX7_began 2 = .ok (.lconst 0, 1) := by decide +kernel
theorem dX7_began_3 : decode cX7_began 3 = .ok (.ldc2_w 211, 3) := by decide +kernel
theorem dX7_began_6 : decode cX7_began 6 = .ok (.invokestatic 58, 3) := by decide +kernel
theorem dX7_began_9 : decode cX7_began 9 = .ok (.ifCond .ne 6, 3) := by decide +kernel
theorem dX7_began_12 : decode cX7_began 12 = .ok (.bipush (-2), 2) := by decide +kernel
theorem dX7_began_14 : decode cX7_began 14 = .ok (.ireturn, 1) := by decide +kernel
theorem dX7_began_15 : decode cX7_began 15 = .ok (.iconst 0, 1) := by decide +kernel
theorem dX7_began_16 : decode cX7_began 16 = .ok (.istore_n 2, 1) := by decide +kernel
theorem dX7_began_17 : decode cX7_began 17 = .ok (.iconst 0, 1) := by decide +kernel
theorem dX7_began_18 : decode cX7_began 18 = .ok (.istore_n 3, 1) := by decide +kernel
theorem dX7_began_19 : decode cX7_began 19 = .ok (.iload_n 3, 1) := by decide +kernel
theorem dX7_began_20 : decode cX7_began 20 = .ok (.bipush 20, 2) := by decide +kernel
theorem dX7_began_22 : decode cX7_began 22 = .ok (.if_icmp .ge 28, 3) := by decide +kernel
theorem dX7_began_25 : decode cX7_began 25 = .ok (.iload_n 2, 1) := by decide +kernel
theorem dX7_began_26 : decode cX7_began 26 = .ok (.aload_n 0, 1) := by decide +kernel
theorem dX7_began_27 : decode cX7_began 27 = .ok (.iload_n 1, 1) := by decide +kernel
theorem dX7_began_28 : decode cX7_began 28 = .ok (.iload_n 3, 1) := by decide +kernel
theorem dX7_began_29 : decode cX7_began 29 = .ok (.invokevirtual 227, 3) := by decide +kernel
theorem dX7_began_32 : decode cX7_began 32 = .ok (.ifCond .eq 9, 3) := by decide +kernel
theorem dX7_began_35 : decode cX7_began 35 = .ok (.iconst 1, 1) := by decide +kernel
theorem dX7_began_36 : decode cX7_began 36 = .ok (.iload_n 3, 1) := by decide +kernel
theorem dX7_began_37 : decode cX7_began 37 = .ok (.ishl, 1) := by decide +kernel
theorem dX7_began_38 : decode cX7_began 38 = .ok (.goto 4, 3) := by decide +kernel
theorem dX7_began_41 : decode cX7_began 41 = .ok (.iconst 0, 1) := by decide +kernel
theorem dX7_began_42 : decode cX7_began 42 = .ok (.ior, 1) := by decide +kernel
theorem dX7_began_43 : decode cX7_began 43 = .ok (.istore_n 2, 1) := by decide +kernel
theorem dX7_began_44 : decode cX7_began 44 = .ok (.iinc 3 1, 3) := by decide +kernel
theorem dX7_began_47 : decode cX7_began 47 = .ok (.goto (-28), 3) := by decide +kernel
theorem dX7_began_50 : decode cX7_began 50 = .ok (.iload_n 2, 1) := by decide +kernel
theorem dX7_began_51 : decode cX7_began 51 = .ok (.ireturn, 1) := by decide +kernel
theorem dX7_factorial_0 : decode cX7_factorial 0 = .ok (.iconst 1, 1) := by decide +kernel
theorem dX7_factorial_1 : decode cX7_factorial 1 = .ok (.istore_n 1, 1) := by decide +kernel
theorem dX7_factorial_2 : decode cX7_factorial 2 = .ok (.iconst 2, 1) := by decide +kernel
theorem dX7_factorial_3 : decode cX7_factorial 3 = .ok (.istore_n 2, 1) := by decide +kernel
theorem dX7_factorial_4 : decode cX7_factorial 4 = .ok (.iload_n 2, 1) := by decide +kernel
theorem dX7_factorial_5 : decode cX7_factorial 5 = .ok (.iload_n 0, 1) := by decide +kernel
theorem dX7_factorial_6 : decode cX7_factorial 6 = .ok (.if_icmp .gt 13, 3) := by decide +kernel
theorem dX7_factorial_9 : decode cX7_factorial 9 = .ok (.iload_n 1, 1) := by decide +kernel
theorem dX7_factorial_10 : decode cX7_factorial 10 = .ok (.iload_n 2, 1) := by decide +kernel
theorem dX7_factorial_11 : decode cX7_factorial 11 = .ok (.imul, 1) := by decide +kernel
theorem dX7_factorial_12 : decode cX7_factorial 12 = .ok (.istore_n 1, 1) := by decide +kernel
theorem dX7_factorial_13 : decode cX7_factorial 13 = .ok (.iinc 2 1, 3) := by decide +kernel
theorem dX7_factorial_16 : decode cX7_factorial 16 = .ok (.goto (-12), 3) := by decide +kernel
theorem dX7_factorial_19 : decode cX7_factorial 19 = .ok (.iload_n 1, 1) := by decide +kernel
theorem dX7_factorial_20 : decode cX7_factorial 20 = .ok (.ireturn, 1) := by decide +kernel
theorem dX7_common_0 : decode cX7_common 0 = .ok (.iload_n 0, 1) := by decide +kernel
theorem dX7_common_1 : decode cX7_common 1 = .ok (.ifCond .ge 8, 3) := by decide +kernel
theorem dX7_common_4 : decode cX7_common 4 = .ok (.iload_n 0, 1) := by decide +kernel
theorem dX7_common_5 : decode cX7_common 5 = .ok (.ineg, 1) := by decide +kernel
theorem dX7_common_6 : decode cX7_common 6 = .ok (.goto 4, 3) := by decide +kernel
theorem dX7_common_9 : decode cX7_common 9 = .ok (.iload_n 0, 1) := by decide +kernel
theorem dX7_common_10 : decode cX7_common 10 = .ok (.istore_n 2, 1) := by decide +kernel
theorem dX7_common_11 : decode cX7_common 11 = .ok (.iload_n 1, 1) := by decide +kernel
theorem dX7_common_12 : decode cX7_common 12 = .ok (.istore_n 3, 1) := by decide +kernel
theorem dX7_common_13 : decode cX7_common 13 = .ok (.iload_n 3, 1) := by decide +kernel
theorem dX7_common_14 : decode cX7_common 14 = .ok (.ifCond .eq 16, 3) := by decide +kernel
theorem dX7_common_17 : decode cX7_common 17 = .ok (.iload_n 2, 1) := by decide +kernel
theorem dX7_common_18 : decode cX7_common 18 = .ok (.iload_n 3, 1) := by decide +kernel
theorem dX7_common_19 : decode cX7_common 19 = .ok (.irem, 1) := by decide +kernel
theorem dX7_common_20 : decode cX7_common 20 = .ok (.istore 4, 2) := by decide +kernel
theorem dX7_common_22 : decode cX7_common 22 = .ok (.iload_n 3, 1) := by decide +kernel
theorem dX7_common_23 : decode cX7_common 23 = .ok (.istore_n 2, 1) := by decide +kernel
theorem dX7_common_24 : decode cX7_common 24 = .ok (.iload 4, 2) := by decide +kernel
theorem dX7_common_26 : decode cX7_common 26 = .ok (.istore_n 3, 1) := by decide +kernel
theorem dX7_common_27 : decode cX7_common 27 = .ok (.goto (-14), 3) := by decide +kernel
theorem dX7_common_30 : decode cX7_common 30 = .ok (.iload_n 2, 1) := by decide +kernel
theorem dX7_common_31 : decode cX7_common 31 = .ok (.ireturn, 1) := by decide +kernel
theorem dX7_largest_0 : decode cX7_largest 0 = .ok (.aload_n 0, 1) := by decide +kernel
theorem dX7_largest_1 : decode cX7_largest 1 = .ok (.iload_n 1, 1) := by decide +kernel
theorem dX7_largest_2 : decode cX7_largest 2 = .ok (.invokevirtual 160, 3) := by decide +kernel
theorem dX7_largest_5 : decode cX7_largest 5 = .ok (.istore_n 2, 1) := by decide +kernel
theorem dX7_largest_6 : decode cX7_largest 6 = .ok (.iconst 0, 1) := by decide +kernel
theorem dX7_largest_7 : decode cX7_largest 7 = .ok (.istore_n 3, 1) := by decide +kernel
theorem dX7_largest_8 : decode cX7_largest 8 = .ok (.iload_n 2, 1) := by decide +kernel
theorem dX7_largest_9 : decode cX7_largest 9 = .ok (.ifCond .eq 78, 3) := by decide +kernel
theorem dX7_largest_12 : decode cX7_largest 12 = .ok (.iconst 1, 1) := by decide +kernel
theorem dX7_largest_13 : decode cX7_largest 13 = .ok (.iload_n 2, 1) := by decide +kernel
theorem dX7_largest_14 : decode cX7_largest 14 = .ok (.invokestatic 116, 3) := by decide +kernel
theorem dX7_largest_17 : decode cX7_largest 17 = .ok (.ishl, 1) := by decide +kernel
theorem dX7_largest_18 : decode cX7_largest 18 = .ok (.istore 4, 2) := by decide +kernel
theorem dX7_largest_20 : decode cX7_largest 20 = .ok (.iload 4, 2) := by decide +kernel
theorem dX7_largest_22 : decode cX7_largest 22 = .ok (.iload 4, 2) := by decide +kernel
theorem dX7_largest_24 : decode cX7_largest 24 = .ok (.invokestatic 112, 3) := by decide +kernel
theorem dX7_largest_27 : decode cX7_largest 27 = .ok (.iload_n 2, 1) := by decide +kernel
theorem dX7_largest_28 : decode cX7_largest 28 = .ok (.iand, 1) := by decide +kernel
theorem dX7_largest_29 : decode cX7_largest 29 = .ok (.ior, 1) := by decide +kernel
theorem dX7_largest_30 : decode cX7_largest 30 = .ok (.istore 5, 2) := by decide +kernel
theorem dX7_largest_32 : decode cX7_largest 32 = .ok (.iload 5, 2) := by decide +kernel
theorem dX7_largest_34 : decode cX7_largest 34 = .ok (.iload 4, 2) := by decide +kernel
theorem dX7_largest_36 : decode cX7_largest 36 = .ok (.if_icmp .eq 22, 3) := by decide +kernel
theorem dX7_largest_39 : decode cX7_largest 39 = .ok (.iload 5, 2) := by decide +kernel
theorem dX7_largest_41 : decode cX7_largest 41 = .ok (.istore 4, 2) := by decide +kernel
theorem dX7_largest_43 : decode cX7_largest 43 = .ok (.iload 4, 2) := by decide +kernel
theorem dX7_largest_45 : decode cX7_largest 45 = .ok (.iload 4, 2) := by decide +kernel
theorem dX7_largest_47 : decode cX7_largest 47 = .ok (.invokestatic 112, 3) := by decide +kernel
theorem dX7_largest_50 : decode cX7_largest 50 = .ok (.iload_n 2, 1) := by decide +kernel
theorem dX7_largest_51 : decode cX7_largest 51 = .ok (.iand, 1) := by decide +kernel
theorem dX7_largest_52 : decode cX7_largest 52 = .ok (.ior, 1) := by decide +kernel
theorem dX7_largest_53 : decode cX7_largest 53 = .ok (.istore 5, 2) := by decide +kernel
theorem dX7_largest_55 : decode cX7_largest 55 = .ok (.goto (-23), 3) := by decide +kernel
theorem dX7_largest_58 : decode cX7_largest 58 = .ok (.iload 4, 2) := by decide +kernel
theorem dX7_largest_60 : decode cX7_largest 60 = .ok (.invokestatic 137, 3) := by decide +kernel
theorem dX7_largest_63 : decode cX7_largest 63 = .ok (.iload_n 3, 1) := by decide +kernel
theorem dX7_largest_64 : decode cX7_largest 64 = .ok (.if_icmp .le 11, 3) := by decide +kernel
theorem dX7_largest_67 : decode cX7_largest 67 = .ok (.iload 4, 2) := by decide +kernel
theorem dX7_largest_69 : decode cX7_largest 69 = .ok (.invokestatic 137, 3) := by decide +kernel
theorem dX7_largest_72 : decode cX7_largest 72 = .ok (.goto 4, 3) := by decide +kernel
theorem dX7_largest_75 : decode cX7_largest 75 = .ok (.iload_n 3, 1) := by decide +kernel
theorem dX7_largest_76 : decode cX7_largest 76 = .ok (.istore_n 3, 1) := by decide +kernel
theorem dX7_largest_77 : decode cX7_largest 77 = .ok (.iload_n 2, 1) := by decide +kernel
theorem dX7_largest_78 : decode cX7_largest 78 = .ok (.iload 4, 2) := by decide +kernel
theorem dX7_largest_80 : decode cX7_largest 80 = .ok (.iconst (-1), 1) := by decide +kernel
theorem dX7_largest_81 : decode cX7_largest 81 = .ok (.ixor, 1) := by decide +kernel
theorem dX7_largest_82 : decode cX7_largest 82 = .ok (.iand, 1) := by decide +kernel
theorem dX7_largest_83 : decode cX7_largest 83 = .ok (.istore_n 2, 1) := by decide +kernel
theorem dX7_largest_84 : decode cX7_largest 84 = .ok (.goto (-76), 3) := by decide +kernel
theorem dX7_largest_87 : decode cX7_largest 87 = .ok (.iload_n 3, 1) := by decide +kernel
theorem dX7_largest_88 : decode cX7_largest 88 = .ok (.ireturn, 1) := by decide +kernel
theorem dX7_share_0 : decode cX7_share 0 = .ok (.aload_n 0, 1) := by decide +kernel
theorem dX7_share_1 : decode cX7_share 1 = .ok (.iload_n 1, 1) := by decide +kernel
theorem dX7_share_2 : decode cX7_share 2 = .ok (.invokevirtual 157, 3) := by decide +kernel
theorem dX7_share_5 : decode cX7_share 5 = .ok (.ifCond .ne 5, 3) := by decide +kernel
theorem dX7_share_8 : decode cX7_share 8 = .ok (.iconst (-1), 1) := by decide +kernel
theorem dX7_share_9 : decode cX7_share 9 = .ok (.ireturn, 1) := by decide +kernel
theorem dX7_share_10 : decode cX7_share 10 = .ok (.iconst 0, 1) := by decide +kernel
theorem dX7_share_11 : decode cX7_share 11 = .ok (.istore_n 3, 1) := by decide +kernel
theorem dX7_share_12 : decode cX7_share 12 = .ok (.iconst 0, 1) := by decide +kernel
theorem dX7_share_13 : decode cX7_share 13 = .ok (.istore 4, 2) := by decide +kernel
theorem dX7_share_15 : decode cX7_share 15 = .ok (.iload 4, 2) := by decide +kernel
theorem dX7_share_17 : decode cX7_share 17 = .ok (.iconst 1, 1) := by decide +kernel
theorem dX7_share_18 : decode cX7_share 18 = .ok (.aload_n 0, 1) := by decide +kernel
theorem dX7_share_19 : decode cX7_share 19 = .ok (.getfield 103, 3) := by decide +kernel
theorem dX7_share_22 : decode cX7_share 22 = .ok (.ishl, 1) := by decide +kernel
theorem dX7_share_23 : decode cX7_share 23 = .ok (.if_icmp .ge 67, 3) := by decide +kernel
theorem dX7_share_26 : decode cX7_share 26 = .ok (.iload 4, 2) := by decide +kernel
theorem dX7_share_28 : decode cX7_share 28 = .ok (.iload_n 1, 1) := by decide +kernel
theorem dX7_share_29 : decode cX7_share 29 = .ok (.invokestatic 74, 3) := by decide +kernel
theorem dX7_share_32 : decode cX7_share 32 = .ok (.ifCond .ne 52, 3) := by decide +kernel
theorem dX7_share_35 : decode cX7_share 35 = .ok (.iload 4, 2) := by decide +kernel
theorem dX7_share_37 : decode cX7_share 37 = .ok (.invokestatic 137, 3) := by decide +kernel
theorem dX7_share_40 : decode cX7_share 40 = .ok (.invokestatic 230, 3) := by decide +kernel
theorem dX7_share_43 : decode cX7_share 43 = .ok (.aload_n 0, 1) := by decide +kernel
theorem dX7_share_44 : decode cX7_share 44 = .ok (.getfield 103, 3) := by decide +kernel
theorem dX7_share_47 : decode cX7_share 47 = .ok (.iconst 1, 1) := by decide +kernel
theorem dX7_share_48 : decode cX7_share 48 = .ok (.isub, 1) := by decide +kernel
theorem dX7_share_49 : decode cX7_share 49 = .ok (.iload 4, 2) := by decide +kernel
theorem dX7_share_51 : decode cX7_share 51 = .ok (.invokestatic 137, 3) := by decide +kernel
theorem dX7_share_54 : decode cX7_share 54 = .ok (.isub, 1) := by decide +kernel
theorem dX7_share_55 : decode cX7_share 55 = .ok (.invokestatic 230, 3) := by decide +kernel
theorem dX7_share_58 : decode cX7_share 58 = .ok (.imul, 1) := by decide +kernel
theorem dX7_share_59 : decode cX7_share 59 = .ok (.istore 5, 2) := by decide +kernel
theorem dX7_share_61 : decode cX7_share 61 = .ok (.iload_n 3, 1) := by decide +kernel
theorem dX7_share_62 : decode cX7_share 62 = .ok (.iload 5, 2) := by decide +kernel
theorem dX7_share_64 : decode cX7_share 64 = .ok (.aload_n 0, 1) := by decide +kernel
theorem dX7_share_65 : decode cX7_share 65 = .ok (.iload 4, 2) := by decide +kernel
theorem dX7_share_67 : decode cX7_share 67 = .ok (.iconst 1, 1) := by decide +kernel
theorem dX7_share_68 : decode cX7_share 68 = .ok (.iload_n 1, 1) := by decide +kernel
theorem dX7_share_69 : decode cX7_share 69 = .ok (.ishl, 1) := by decide +kernel
theorem dX7_share_70 : decode cX7_share 70 = .ok (.ior, 1) := by decide +kernel
theorem dX7_share_71 : decode cX7_share 71 = .ok (.invokevirtual 233, 3) := by decide +kernel
theorem dX7_share_74 : decode cX7_share 74 = .ok (.aload_n 0, 1) := by decide +kernel
theorem dX7_share_75 : decode cX7_share 75 = .ok (.iload 4, 2) := by decide +kernel
theorem dX7_share_77 : decode cX7_share 77 = .ok (.invokevirtual 233, 3) := by decide +kernel
theorem dX7_share_80 : decode cX7_share 80 = .ok (.isub, 1) := by decide +kernel
theorem dX7_share_81 : decode cX7_share 81 = .ok (.imul, 1) := by decide +kernel
theorem dX7_share_82 : decode cX7_share 82 = .ok (.iadd, 1) := by decide +kernel
theorem dX7_share_83 : decode cX7_share 83 = .ok (.istore_n 3, 1) := by decide +kernel
theorem dX7_share_84 : decode cX7_share 84 = .ok (.iinc 4 1, 3) := by decide +kernel
theorem dX7_share_87 : decode cX7_share 87 = .ok (.goto (-72), 3) := by decide +kernel
theorem dX7_share_90 : decode cX7_share 90 = .ok (.iload_n 3, 1) := by decide +kernel
theorem dX7_share_91 : decode cX7_share 91 = .ok (.aload_n 0, 1) := by decide +kernel
theorem dX7_share_92 : decode cX7_share 92 = .ok (.getfield 103, 3) := by decide +kernel
theorem dX7_share_95 : decode cX7_share 95 = .ok (.invokestatic 230, 3) := by decide +kernel
theorem dX7_share_98 : decode cX7_share 98 = .ok (.invokestatic 236, 3) := by decide +kernel
theorem dX7_share_101 : decode cX7_share 101 = .ok (.istore 4, 2) := by decide +kernel
theorem dX7_share_103 : decode cX7_share 103 = .ok (.iload_n 2, 1) := by decide +kernel
theorem dX7_share_104 : decode cX7_share 104 = .ok (.ifCond .eq 10, 3) := by decide +kernel
theorem dX7_share_107 : decode cX7_share 107 = .ok (.iload_n 3, 1) := by decide +kernel
theorem dX7_share_108 : decode cX7_share 108 = .ok (.iload 4, 2) := by decide +kernel
theorem dX7_share_110 : decode cX7_share 110 = .ok (.idiv, 1) := by decide +kernel
theorem dX7_share_111 : decode cX7_share 111 = .ok (.goto 13, 3) := by decide +kernel
theorem dX7_share_114 : decode cX7_share 114 = .ok (.aload_n 0, 1) := by decide +kernel
theorem dX7_share_115 : decode cX7_share 115 = .ok (.getfield 103, 3) := by decide +kernel
theorem dX7_share_118 : decode cX7_share 118 = .ok (.invokestatic 230, 3) := by decide +kernel
theorem dX7_share_121 : decode cX7_share 121 = .ok (.iload 4, 2) := by decide +kernel
theorem dX7_share_123 : decode cX7_share 123 = .ok (.idiv, 1) := by decide +kernel
theorem dX7_share_124 : decode cX7_share 124 = .ok (.ireturn, 1) := by decide +kernel
theorem dX7_holeCells_0 : decode cX7_holeCells 0 = .ok (.iconst 0, 1) := by decide +kernel
theorem dX7_holeCells_1 : decode cX7_holeCells 1 = .ok (.istore_n 2, 1) := by decide +kernel
theorem dX7_holeCells_2 : decode cX7_holeCells 2 = .ok (.iconst 0, 1) := by decide +kernel
theorem dX7_holeCells_3 : decode cX7_holeCells 3 = .ok (.istore_n 3, 1) := by decide +kernel
theorem dX7_holeCells_4 : decode cX7_holeCells 4 = .ok (.iload_n 3, 1) := by decide +kernel
theorem dX7_holeCells_5 : decode cX7_holeCells 5 = .ok (.aload_n 0, 1) := by decide +kernel
theorem dX7_holeCells_6 : decode cX7_holeCells 6 = .ok (.getfield 106, 3) := by decide +kernel
theorem dX7_holeCells_9 : decode cX7_holeCells 9 = .ok (.if_icmp .ge 38, 3) := by decide +kernel
theorem dX7_holeCells_12 : decode cX7_holeCells 12 = .ok (.iload_n 2, 1) := by decide +kernel
theorem dX7_holeCells_13 : decode cX7_holeCells 13 = .ok (.aload_n 0, 1) := by decide +kernel
theorem dX7_holeCells_14 : decode cX7_holeCells 14 = .ok (.getfield 19, 3) := by decide +kernel
theorem dX7_holeCells_17 : decode cX7_holeCells 17 = .ok (.bipush 20, 2) := by decide +kernel
theorem dX7_holeCells_19 : decode cX7_holeCells 19 = .ok (.iload_n 3, 1) := by decide +kernel
theorem dX7_holeCells_20 : decode cX7_holeCells 20 = .ok (.iadd, 1) := by decide +kernel
theorem dX7_holeCells_21 : decode cX7_holeCells 21 = .ok (.iaload, 1) := by decide +kernel
theorem dX7_holeCells_22 : decode cX7_holeCells 22 = .ok (.iload_n 1, 1) := by decide +kernel
theorem dX7_holeCells_23 : decode cX7_holeCells 23 = .ok (.if_icmp .ne 15, 3) := by decide +kernel
theorem dX7_holeCells_26 : decode cX7_holeCells 26 = .ok (.aload_n 0, 1) := by decide +kernel
theorem dX7_holeCells_27 : decode cX7_holeCells 27 = .ok (.iconst 0, 1) := by decide +kernel
theorem dX7_holeCells_28 : decode cX7_holeCells 28 = .ok (.iload_n 3, 1) := by decide +kernel
theorem dX7_holeCells_29 : decode cX7_holeCells 29 = .ok (.invokevirtual 119, 3) := by decide +kernel
theorem dX7_holeCells_32 : decode cX7_holeCells 32 = .ok (.invokestatic 137, 3) := by decide +kernel
theorem dX7_holeCells_35 : decode cX7_holeCells 35 = .ok (.goto 4, 3) := by decide +kernel
theorem dX7_holeCells_38 : decode cX7_holeCells 38 = .ok (.iconst 0, 1) := by decide +kernel
theorem dX7_holeCells_39 : decode cX7_holeCells 39 = .ok (.iadd, 1) := by decide +kernel
theorem dX7_holeCells_40 : decode cX7_holeCells 40 = .ok (.istore_n 2, 1) := by decide +kernel
theorem dX7_holeCells_41 : decode cX7_holeCells 41 = .ok (.iinc 3 1, 3) := by decide +kernel
theorem dX7_holeCells_44 : decode cX7_holeCells 44 = .ok (.goto (-40), 3) := by decide +kernel
theorem dX7_holeCells_47 : decode cX7_holeCells 47 = .ok (.iload_n 2, 1) := by decide +kernel
theorem dX7_holeCells_48 : decode cX7_holeCells 48 = .ok (.ireturn, 1) := by decide +kernel
def wp_X7_taste (p0 : Int32) (p1 : Int32) (p2 : Int32) (s0 : CS) (Q : Int32 → CS → Prop) : Prop := wp_X7_isCell p0 (fun r_1 => ((¬ r_1 = 0 → wp_X7_in (p1.toInt64) (0 : Int64) (9 : Int64) (fun r_3 => ((r_3 = 0 → Q (-2 : Int32) s0) ∧ (¬ r_3 = 0 → wp_X7_in (p2.toInt64) (0 : Int64) (1 : Int64) (fun r_5 => ((¬ r_5 = 0 → ((¬ (s0.1 21) = (6 : Int32) → vp_in (s0.1 21) 6 ∧ ∀ s0_9 : CS, s0_9 = sA s0 22 (s0.1 21).toNatClampNeg p0 → vp_in (s0_9.1 21) 6 ∧ ∀ s0_11 : CS, s0_11 = sA s0_9 23 (s0_9.1 21).toNatClampNeg p1 → vp_in (s0_11.1 21) 6 ∧ ∀ s0_13 : CS, s0_13 = sA s0_11 24 (s0_11.1 21).toNatClampNeg p2 → ∀ s0_14 : CS, s0_14 = sI s0_13 21 ((s0_13.1 21) + (1 : Int32)) → Q (s0_14.1 21) s0_14) ∧ ((s0.1 21) = (6 : Int32) → Q (-4 : Int32) s0))) ∧ (r_5 = 0 → Q (-2 : Int32) s0))))))) ∧ (r_1 = 0 → Q (-1 : Int32) s0)))
set_option maxHeartbeats 4000000 in
set_option maxRecDepth 100000 in
theorem c_X7_taste (l : Launch) (D : va_G) (cI cZ cW : ClassId) (q0 : Nat → Nat) (sz : Nat) (p0 : Int32) (p1 : Int32) (p2 : Int32) (s0 : CS) (Q : Int32 → CS → Prop) (hf : wp_X7_taste p0 p1 p2 s0 Q) : Met l yX7_taste (wsA yX7_taste cX7_taste 4 (some .int)) ({ frames := 2, cells := 0, slots := 0, locals := 45 }) (PW D cI cZ cW [.ref (q0 0), .int p0, .int p1, .int p2] (wM cI cZ q0 s0) sz) (va_Qi (fun (r : Int32) (u : CS) => Q r u) (fun u t => va_P D classes (wM cI cZ q0 u) t.heap) (va_A (wM cI cZ q0 s0) sz)) 0 0 (va_A (wM cI cZ q0 s0) sz) := by
  refine Met.ofW (cc := cX7_taste) (maxL := 4) (ret := (some .int)) (by decide) rfl ?_
  intro p e s m args below meth c s₁ B hml hv
  obtain ⟨rfl, hsz, hP, hK, hD0⟩ := hv
  have hx := B.exec
  have hb := B.bytes
  have hr := B.returns
  have hts := atoms_spec (ws := (wsA yX7_taste cX7_taste 4 (some .int))) B.pre
  have ht : ∀ w ∈ lw_g, w.before _ s = true := fun w h => hts w (List.mem_cons_of_mem _ h)
  have hown : s.vm.findClass RX7 = some m.cls := findClass_of_methodNamed B.named
  have hlocks := B.notSynchronized
  subst hsz
  have hD := hD0.self (sz := s.heap.size)
  generalize hAe : va_A (wM cI cZ q0 s0) s.heap.size = A at hD ⊢
  have hA : ∀ q : Nat, s.heap.size ≤ q → A q := fun q h => by rw [← hAe]; exact Or.inr h
  have hS : va_S A s.heap s.heap [] := va_S.rf
  have hDk : ∀ w : CS, va_D A (wM cI cZ q0 w) := fun w => D_M hD
  have hl := lv_entry ([.ref (q0 0), .int p0, .int p1, .int p2]) (n := 4) (Nat.le_of_ble_eq_true rfl)
  rw [lg_entry_eq]
  generalize (lg_sl ([.ref (q0 0), .int p0, .int p1, .int p2]) ++ List.replicate (4 - (lg_sl ([.ref (q0 0), .int p0, .int p1, .int p2])).length) Slot.unset).toArray = ls at hl ⊢
  have hl : lv_has ls 4 [(0, .ref (q0 0)), (1, .int p0), (2, .int p1), (3, .int p2)] := hl
  unfold wp_X7_taste at hf
  have start : ∀ (H : Heap) (locs : List Loc), va_P D classes (wM cI cZ q0 s0) H → va_D A (wM cI cZ q0 s0) → va_S A s.heap H locs → W p l e (headSpec (wsA yX7_taste cX7_taste 4 (some .int)) ({ frames := 2, cells := 0, slots := 0, locals := 45 })).room s m (#[.ref (q0 0), .int p0, .int p1, .int p2] : Array Value) below meth c H locs 0 0 (MQ below (va_Qi (fun (r : Int32) (u : CS) => Q r u) (fun u t => va_P D classes (wM cI cZ q0 u) t.heap) A) (#[.ref (q0 0), .int p0, .int p1, .int p2] : Array Value) s 0 0 A) (F0 m 0 ls []) := by
    intro H locs hP hD hS
    refine lv_iload_n hx hb dX7_taste_0 rfl (lv_at hl 1 rfl) ?_
    have hPc : va_P D classes ([] : va_W) H := hP.sub [] rfl
    refine vp_callSi (W.runS (As := [.int p0]) (rest := []) ⟨hx, hb, hml, hown, hts⟩ (c_X7_isCell l D cI cZ cW  p0 _ hf) ⟨callB_of 1 hts (gA tw_814) rfl rfl rfl (ht _ tw_7) (ht _ tw_812) hd_X7_isCell ⟨Nat.le_of_ble_eq_true rfl, Nat.le_of_ble_eq_true rfl⟩, ht _ tw_813⟩ ⟨PR_blind, fun U hU hW => PR_mk hPc hK hU hW⟩ rfl rfl hl.1 rfl (lv_room (Nat.le_of_ble_eq_true rfl)) dX7_taste_1 ⟨Nat.zero_le _, Nat.zero_le _⟩) (fun r_1 hf => ?_)
    refine lv_if_ne (tgt := 9) hx hb dX7_taste_4 (by decide) (fun c_2 => ?_) (fun c_2 => ?_)
    · have hf := hf.1 c_2
      refine lv_iload_n hx hb dX7_taste_9 rfl (lv_at hl 2 rfl) ?_
      refine lv_i2l (v := p1.toInt64) hx hb dX7_taste_10 rfl ?_
      refine lv_lconst (v := (0 : Int64)) hx hb dX7_taste_11 (by decide) ?_
      refine lv_ldc2 (v := (9 : Int64)) hx hb hown (ht _ tw_958) dX7_taste_12 ?_
      have hPc : va_P D classes ([] : va_W) H := hP.sub [] rfl
      refine vp_callSi (W.runS (As := [.long p1.toInt64, .long (0 : Int64), .long (9 : Int64)]) (rest := []) ⟨hx, hb, hml, hown, hts⟩ (c_X7_in l D cI cZ cW  (p1.toInt64) (0 : Int64) (9 : Int64) _ hf) ⟨callB_of 3 hts (gA tw_747) rfl rfl rfl (ht _ tw_7) (ht _ tw_745) hd_X7_in ⟨Nat.le_of_ble_eq_true rfl, Nat.le_of_ble_eq_true rfl⟩, ht _ tw_746⟩ ⟨PR_blind, fun U hU hW => PR_mk hPc hK hU hW⟩ rfl rfl hl.1 rfl (lv_room (Nat.le_of_ble_eq_true rfl)) dX7_taste_15 ⟨Nat.zero_le _, Nat.zero_le _⟩) (fun r_3 hf => ?_)
      refine lv_if_eq (tgt := 31) hx hb dX7_taste_18 (by decide) (fun c_4 => ?_) (fun c_4 => ?_)
      · have hf := hf.1 c_4
        refine lv_bipush (v := (-2 : Int32)) hx hb dX7_taste_31 (by decide) ?_
        exact W.iret (v := (-2 : Int32)) hx hb hr (fun t ht hW => ⟨⟨(-2 : Int32), s0, rfl, hf, P_heap ht hP⟩, hS.F ht⟩) hS.2.2 dX7_taste_33
      · have hf := hf.2 c_4
        refine lv_iload_n hx hb dX7_taste_21 rfl (lv_at hl 3 rfl) ?_
        refine lv_i2l (v := p2.toInt64) hx hb dX7_taste_22 rfl ?_
        refine lv_lconst (v := (0 : Int64)) hx hb dX7_taste_23 (by decide) ?_
        refine lv_lconst (v := (1 : Int64)) hx hb dX7_taste_24 (by decide) ?_
        have hPc : va_P D classes ([] : va_W) H := hP.sub [] rfl
        refine vp_callSi (W.runS (As := [.long p2.toInt64, .long (0 : Int64), .long (1 : Int64)]) (rest := []) ⟨hx, hb, hml, hown, hts⟩ (c_X7_in l D cI cZ cW  (p2.toInt64) (0 : Int64) (1 : Int64) _ hf) ⟨callB_of 3 hts (gA tw_747) rfl rfl rfl (ht _ tw_7) (ht _ tw_745) hd_X7_in ⟨Nat.le_of_ble_eq_true rfl, Nat.le_of_ble_eq_true rfl⟩, ht _ tw_746⟩ ⟨PR_blind, fun U hU hW => PR_mk hPc hK hU hW⟩ rfl rfl hl.1 rfl (lv_room (Nat.le_of_ble_eq_true rfl)) dX7_taste_25 ⟨Nat.zero_le _, Nat.zero_le _⟩) (fun r_5 hf => ?_)
        refine lv_if_ne (tgt := 34) hx hb dX7_taste_28 (by decide) (fun c_6 => ?_) (fun c_6 => ?_)
        · have hf := hf.1 c_6
          refine lv_aload_n hx hb dX7_taste_34 rfl (lv_at hl 0 rfl) ?_
          refine va_get (D := D) (ci := 5) (v := .int (s0.1 21)) (C := RX7) (T := TX7) (N := 28) hx hb ht inX7 hown hK hP 0 eM_0 rfl 21 (by decide) (ht _ tw_676) (fun _ h9 => h9) rfl dX7_taste_35 ?_
          refine lv_bipush (v := (6 : Int32)) hx hb dX7_taste_38 (by decide) ?_
          refine lv_icmp_ne (tgt := 46) hx hb dX7_taste_40 (by decide) (fun c_7 => ?_) (fun c_7 => ?_)
          · have hf := hf.1 c_7
            refine lv_aload_n hx hb dX7_taste_46 rfl (lv_at hl 0 rfl) ?_
            refine va_get (D := D) (ci := 5) (v := .ref (q0 11)) (C := RX7) (T := TX7) (N := 28) hx hb ht inX7 hown hK hP 0 eM_0 rfl 22 (by decide) (ht _ tw_677) (fun _ h9 => h9) rfl dX7_taste_47 ?_
            refine lv_aload_n hx hb dX7_taste_50 rfl (lv_at hl 0 rfl) ?_
            refine va_get (D := D) (ci := 5) (v := .int (s0.1 21)) (C := RX7) (T := TX7) (N := 28) hx hb ht inX7 hown hK hP 0 eM_0 rfl 21 (by decide) (ht _ tw_676) (fun _ h9 => h9) rfl dX7_taste_51 ?_
            refine lv_iload_n hx hb dX7_taste_54 rfl (lv_at hl 1 rfl) ?_
            obtain ⟨hi_8, hf⟩ := hf
            refine va_iast hx hb hK hP hD hS 11 0 eM_11 rfl hi_8 dX7_taste_55 (fun H locs hP hD hS => ?_)
            obtain ⟨s0_9, es0_9⟩ : ∃ y : CS, y = sA s0 22 (s0.1 21).toNatClampNeg p0 := ⟨_, rfl⟩
            have hf := hf s0_9 es0_9
            have hD := hDk s0_9
            have hP : va_P D classes (wM cI cZ q0 s0_9) H := by rw [es0_9]; exact PM_F22 hP
            refine lv_aload_n hx hb dX7_taste_56 rfl (lv_at hl 0 rfl) ?_
            refine va_get (D := D) (ci := 5) (v := .ref (q0 12)) (C := RX7) (T := TX7) (N := 28) hx hb ht inX7 hown hK hP 0 eM_0 rfl 23 (by decide) (ht _ tw_678) (fun _ h9 => h9) rfl dX7_taste_57 ?_
            refine lv_aload_n hx hb dX7_taste_60 rfl (lv_at hl 0 rfl) ?_
            refine va_get (D := D) (ci := 5) (v := .int (s0_9.1 21)) (C := RX7) (T := TX7) (N := 28) hx hb ht inX7 hown hK hP 0 eM_0 rfl 21 (by decide) (ht _ tw_676) (fun _ h9 => h9) rfl dX7_taste_61 ?_
            refine lv_iload_n hx hb dX7_taste_64 rfl (lv_at hl 2 rfl) ?_
            obtain ⟨hi_10, hf⟩ := hf
            refine va_iast hx hb hK hP hD hS 12 0 eM_12 rfl hi_10 dX7_taste_65 (fun H locs hP hD hS => ?_)
            obtain ⟨s0_11, es0_11⟩ : ∃ y : CS, y = sA s0_9 23 (s0_9.1 21).toNatClampNeg p1 := ⟨_, rfl⟩
            have hf := hf s0_11 es0_11
            have hD := hDk s0_11
            have hP : va_P D classes (wM cI cZ q0 s0_11) H := by rw [es0_11]; exact PM_F23 hP
            refine lv_aload_n hx hb dX7_taste_66 rfl (lv_at hl 0 rfl) ?_
            refine va_get (D := D) (ci := 5) (v := .ref (q0 13)) (C := RX7) (T := TX7) (N := 28) hx hb ht inX7 hown hK hP 0 eM_0 rfl 24 (by decide) (ht _ tw_679) (fun _ h9 => h9) rfl dX7_taste_67 ?_
            refine lv_aload_n hx hb dX7_taste_70 rfl (lv_at hl 0 rfl) ?_
            refine va_get (D := D) (ci := 5) (v := .int (s0_11.1 21)) (C := RX7) (T := TX7) (N := 28) hx hb ht inX7 hown hK hP 0 eM_0 rfl 21 (by decide) (ht _ tw_676) (fun _ h9 => h9) rfl dX7_taste_71 ?_
            refine lv_iload_n hx hb dX7_taste_74 rfl (lv_at hl 3 rfl) ?_
            obtain ⟨hi_12, hf⟩ := hf
            refine va_iast hx hb hK hP hD hS 13 0 eM_13 rfl hi_12 dX7_taste_75 (fun H locs hP hD hS => ?_)
            obtain ⟨s0_13, es0_13⟩ : ∃ y : CS, y = sA s0_11 24 (s0_11.1 21).toNatClampNeg p2 := ⟨_, rfl⟩
            have hf := hf s0_13 es0_13
            have hD := hDk s0_13
            have hP : va_P D classes (wM cI cZ q0 s0_13) H := by rw [es0_13]; exact PM_F24 hP
            refine lv_aload_n hx hb dX7_taste_76 rfl (lv_at hl 0 rfl) ?_
            refine lv_dup hx hb dX7_taste_77 rfl ?_
            refine va_get (D := D) (ci := 5) (v := .int (s0_13.1 21)) (C := RX7) (T := TX7) (N := 28) hx hb ht inX7 hown hK hP 0 eM_0 rfl 21 (by decide) (ht _ tw_676) (fun _ h9 => h9) rfl dX7_taste_78 ?_
            refine lv_iconst (v := (1 : Int32)) hx hb dX7_taste_81 (by decide) ?_
            refine lv_iadd hx hb dX7_taste_82 ?_
            refine va_put (D := D) (ci := 5) (v := .int ((s0_13.1 21) + (1 : Int32))) (ty := .int) (C := RX7) (T := TX7) (N := 28) hx hb ht inX7 tyX7 tyX7_ok nmX7 hown hK hP hD hS 0 eM_0 rfl 21 (by decide) (ht _ tw_676) (fun _ h9 => h9) rfl pf_I rfl rfl (Nat.le_of_ble_eq_true rfl) dX7_taste_83 (fun H locs hP hD hS => ?_)
            obtain ⟨s0_14, es0_14⟩ : ∃ y : CS, y = sI s0_13 21 ((s0_13.1 21) + (1 : Int32)) := ⟨_, rfl⟩
            have hf := hf s0_14 es0_14
            have hD := hDk s0_14
            have hP : va_P D classes (wM cI cZ q0 s0_14) H := by rw [es0_14]; exact PM_I21 hP
            refine lv_aload_n hx hb dX7_taste_86 rfl (lv_at hl 0 rfl) ?_
            refine va_get (D := D) (ci := 5) (v := .int (s0_14.1 21)) (C := RX7) (T := TX7) (N := 28) hx hb ht inX7 hown hK hP 0 eM_0 rfl 21 (by decide) (ht _ tw_676) (fun _ h9 => h9) rfl dX7_taste_87 ?_
            exact W.iret (v := (s0_14.1 21)) hx hb hr (fun t ht hW => ⟨⟨(s0_14.1 21), s0_14, rfl, hf, P_heap ht hP⟩, hS.F ht⟩) hS.2.2 dX7_taste_90
          · have hf := hf.2 c_7
            refine lv_bipush (v := (-4 : Int32)) hx hb dX7_taste_43 (by decide) ?_
            exact W.iret (v := (-4 : Int32)) hx hb hr (fun t ht hW => ⟨⟨(-4 : Int32), s0, rfl, hf, P_heap ht hP⟩, hS.F ht⟩) hS.2.2 dX7_taste_45
        · have hf := hf.2 c_6
          refine lv_bipush (v := (-2 : Int32)) hx hb dX7_taste_31 (by decide) ?_
          exact W.iret (v := (-2 : Int32)) hx hb hr (fun t ht hW => ⟨⟨(-2 : Int32), s0, rfl, hf, P_heap ht hP⟩, hS.F ht⟩) hS.2.2 dX7_taste_33
    · have hf := hf.2 c_2
      refine lv_iconst (v := (-1 : Int32)) hx hb dX7_taste_7 (by decide) ?_
      exact W.iret (v := (-1 : Int32)) hx hb hr (fun t ht hW => ⟨⟨(-1 : Int32), s0, rfl, hf, P_heap ht hP⟩, hS.F ht⟩) hS.2.2 dX7_taste_8
  exact start s.heap [] hP hD hS
def wp_X7_rinse (s0 : CS) (Q : Int32 → CS → Prop) : Prop := ∀ x1_1 : Int32, x1_1 = (s0.1 21) → ∀ s0_2 : CS, s0_2 = sI s0 21 (0 : Int32) → Q x1_1 s0_2
set_option maxHeartbeats 4000000 in
set_option maxRecDepth 100000 in
theorem c_X7_rinse (l : Launch) (D : va_G) (cI cZ cW : ClassId) (q0 : Nat → Nat) (sz : Nat) (s0 : CS) (Q : Int32 → CS → Prop) (hf : wp_X7_rinse s0 Q) : Met l yX7_rinse (wsA yX7_rinse cX7_rinse 2 (some .int)) ({ frames := 0, cells := 0, slots := 0, locals := 0 }) (PW D cI cZ cW [.ref (q0 0)] (wM cI cZ q0 s0) sz) (va_Qi (fun (r : Int32) (u : CS) => Q r u) (fun u t => va_P D classes (wM cI cZ q0 u) t.heap) (va_A (wM cI cZ q0 s0) sz)) 0 0 (va_A (wM cI cZ q0 s0) sz) := by
  refine Met.ofW (cc := cX7_rinse) (maxL := 2) (ret := (some .int)) (by decide) rfl ?_
  intro p e s m args below meth c s₁ B hml hv
  obtain ⟨rfl, hsz, hP, hK, hD0⟩ := hv
  have hx := B.exec
  have hb := B.bytes
  have hr := B.returns
  have hts := atoms_spec (ws := (wsA yX7_rinse cX7_rinse 2 (some .int))) B.pre
  have ht : ∀ w ∈ lw_g, w.before _ s = true := fun w h => hts w (List.mem_cons_of_mem _ h)
  have hown : s.vm.findClass RX7 = some m.cls := findClass_of_methodNamed B.named
  have hlocks := B.notSynchronized
  subst hsz
  have hD := hD0.self (sz := s.heap.size)
  generalize hAe : va_A (wM cI cZ q0 s0) s.heap.size = A at hD ⊢
  have hA : ∀ q : Nat, s.heap.size ≤ q → A q := fun q h => by rw [← hAe]; exact Or.inr h
  have hS : va_S A s.heap s.heap [] := va_S.rf
  have hDk : ∀ w : CS, va_D A (wM cI cZ q0 w) := fun w => D_M hD
  have hl := lv_entry ([.ref (q0 0)]) (n := 2) (Nat.le_of_ble_eq_true rfl)
  rw [lg_entry_eq]
  generalize (lg_sl ([.ref (q0 0)]) ++ List.replicate (2 - (lg_sl ([.ref (q0 0)])).length) Slot.unset).toArray = ls at hl ⊢
  have hl : lv_has ls 2 [(0, .ref (q0 0))] := hl
  unfold wp_X7_rinse at hf
  have start : ∀ (H : Heap) (locs : List Loc), va_P D classes (wM cI cZ q0 s0) H → va_D A (wM cI cZ q0 s0) → va_S A s.heap H locs → W p l e (headSpec (wsA yX7_rinse cX7_rinse 2 (some .int)) ({ frames := 0, cells := 0, slots := 0, locals := 0 })).room s m (#[.ref (q0 0)] : Array Value) below meth c H locs 0 0 (MQ below (va_Qi (fun (r : Int32) (u : CS) => Q r u) (fun u t => va_P D classes (wM cI cZ q0 u) t.heap) A) (#[.ref (q0 0)] : Array Value) s 0 0 A) (F0 m 0 ls []) := by
    intro H locs hP hD hS
    refine lv_aload_n hx hb dX7_rinse_0 rfl (lv_at hl 0 rfl) ?_
    refine va_get (D := D) (ci := 5) (v := .int (s0.1 21)) (C := RX7) (T := TX7) (N := 28) hx hb ht inX7 hown hK hP 0 eM_0 rfl 21 (by decide) (ht _ tw_676) (fun _ h9 => h9) rfl dX7_rinse_1 ?_
    refine lv_topi (fun x1_1 ex1_1 => ?_)
    have hf := hf x1_1 ex1_1
    refine lv_istore_n (lv' := [(1, .int x1_1), (0, .ref (q0 0))]) hx hb dX7_rinse_4 rfl hl (by decide) rfl (fun ls hl => ?_)
    refine lv_aload_n hx hb dX7_rinse_5 rfl (lv_at hl 1 rfl) ?_
    refine lv_iconst (v := (0 : Int32)) hx hb dX7_rinse_6 (by decide) ?_
    refine va_put (D := D) (ci := 5) (v := .int (0 : Int32)) (ty := .int) (C := RX7) (T := TX7) (N := 28) hx hb ht inX7 tyX7 tyX7_ok nmX7 hown hK hP hD hS 0 eM_0 rfl 21 (by decide) (ht _ tw_676) (fun _ h9 => h9) rfl pf_I rfl rfl (Nat.le_of_ble_eq_true rfl) dX7_rinse_7 (fun H locs hP hD hS => ?_)
    obtain ⟨s0_2, es0_2⟩ : ∃ y : CS, y = sI s0 21 (0 : Int32) := ⟨_, rfl⟩
    have hf := hf s0_2 es0_2
    have hD := hDk s0_2
    have hP : va_P D classes (wM cI cZ q0 s0_2) H := by rw [es0_2]; exact PM_I21 hP
    refine lv_iload_n hx hb dX7_rinse_10 rfl (lv_at hl 0 rfl) ?_
    exact W.iret (v := x1_1) hx hb hr (fun t ht hW => ⟨⟨x1_1, s0_2, rfl, hf, P_heap ht hP⟩, hS.F ht⟩) hS.2.2 dX7_rinse_11
  exact start s.heap [] hP hD hS
def B_X7_mayBegin_137 (G10 : (Int32 × Int32 × Int32 × Int32) → Prop) (G92 : (Int32 × Int32 × Int32 × Int32 × Int32) → Prop) (s0 : CS) (x1 : Int32) (x4 : Int32) (x5 : Int32) (x6 : Int32) (t0 : Int32) (t1 : Int32) (Q : Int32 → Prop) : Prop := ∀ x3_1 : Int32, x3_1 = (t1 ||| t0) → ∀ x6_2 : Int32, x6_2 = x6 + (1 : Int32) → G92 (x1, x3_1, x4, x5, x6_2)
def B_X7_mayBegin_104 (G10 : (Int32 × Int32 × Int32 × Int32) → Prop) (G92 : (Int32 × Int32 × Int32 × Int32 × Int32) → Prop) (s0 : CS) (x1 : Int32) (x3 : Int32) (x4 : Int32) (x5 : Int32) (x6 : Int32) (t0 : Int32) (t1 : Int32) (Q : Int32 → Prop) : Prop := ((t0 ≤ t1 → ∀ x5_4 : Int32, x5_4 = x5 + (1 : Int32) → G10 (x1, x3, x4, x5_4)) ∧ (¬ t0 ≤ t1 → wp_X7_takes x3 x1 ((1048575 : Int32) &&& (x3 ^^^ (-1 : Int32))) s0 (fun r_5 => ((¬ r_5 = (-9 : Int32) → B_X7_mayBegin_137 G10 G92 s0 x1 x4 x5 x6 ((1 : Int32) <<< (r_5 &&& 31)) x3 Q) ∧ (r_5 = (-9 : Int32) → B_X7_mayBegin_137 G10 G92 s0 x1 x4 x5 x6 (0 : Int32) x3 Q)))))
def LB_X7_mayBegin_92 (G92 : (Int32 × Int32 × Int32 × Int32 × Int32) → Prop) (G10 : (Int32 × Int32 × Int32 × Int32) → Prop) (s0 : CS) (x1 : Int32) (x3 : Int32) (x4 : Int32) (x5 : Int32) (x6 : Int32) (Q : Int32 → Prop) : Prop := ((¬ x1 = (1 : Int32) → B_X7_mayBegin_104 G10 G92 s0 x1 x3 x4 x5 x6 (1 : Int32) x6 Q) ∧ (x1 = (1 : Int32) → B_X7_mayBegin_104 G10 G92 s0 x1 x3 x4 x5 x6 (2 : Int32) x6 Q))
def B_X7_mayBegin_92 (G10 : (Int32 × Int32 × Int32 × Int32) → Prop) (s0 : CS) (x1 : Int32) (x3 : Int32) (x4 : Int32) (x5 : Int32) (x6 : Int32) (Q : Int32 → Prop) : Prop := LOOP (fun (G92 : (Int32 × Int32 × Int32 × Int32 × Int32) → Prop) z => LB_X7_mayBegin_92 G92 G10 s0 z.1 z.2.1 z.2.2.1 z.2.2.2.1 z.2.2.2.2 Q) (x1, x3, x4, x5, x6)
def B_X7_mayBegin_81 (G10 : (Int32 × Int32 × Int32 × Int32) → Prop) (G20 : (Int32 × Int32 × Int32 × Int32 × Int32) → Prop) (s0 : CS) (x1 : Int32) (x3 : Int32) (x5 : Int32) (x6 : Int32) (t0 : Int32) (Q : Int32 → Prop) : Prop := ∀ x6_8 : Int32, x6_8 = x6 + (1 : Int32) → G20 (x1, x3, t0, x5, x6_8)
def B_X7_mayBegin_80 (G10 : (Int32 × Int32 × Int32 × Int32) → Prop) (G20 : (Int32 × Int32 × Int32 × Int32 × Int32) → Prop) (s0 : CS) (x1 : Int32) (x3 : Int32) (x5 : Int32) (x6 : Int32) (Q : Int32 → Prop) : Prop := B_X7_mayBegin_81 G10 G20 s0 x1 x3 x5 x6 (0 : Int32) Q
def B_X7_mayBegin_76 (G10 : (Int32 × Int32 × Int32 × Int32) → Prop) (G20 : (Int32 × Int32 × Int32 × Int32 × Int32) → Prop) (s0 : CS) (x1 : Int32) (x3 : Int32) (x5 : Int32) (x6 : Int32) (Q : Int32 → Prop) : Prop := B_X7_mayBegin_81 G10 G20 s0 x1 x3 x5 x6 (1 : Int32) Q
def B_X7_mayBegin_73 (G10 : (Int32 × Int32 × Int32 × Int32) → Prop) (G20 : (Int32 × Int32 × Int32 × Int32 × Int32) → Prop) (s0 : CS) (x1 : Int32) (x3 : Int32) (x5 : Int32) (x6 : Int32) (t0 : Int32) (t1 : Int32) (Q : Int32 → Prop) : Prop := ((¬ t1 = t0 → B_X7_mayBegin_80 G10 G20 s0 x1 x3 x5 x6 Q) ∧ (t1 = t0 → B_X7_mayBegin_76 G10 G20 s0 x1 x3 x5 x6 Q))
def LB_X7_mayBegin_20 (G20 : (Int32 × Int32 × Int32 × Int32 × Int32) → Prop) (G10 : (Int32 × Int32 × Int32 × Int32) → Prop) (s0 : CS) (x1 : Int32) (x3 : Int32) (x4 : Int32) (x5 : Int32) (x6 : Int32) (Q : Int32 → Prop) : Prop := (((s0.1 21) ≤ x6 → B_X7_mayBegin_92 G10 s0 x1 x3 x4 x5 (0 : Int32) Q) ∧ (¬ (s0.1 21) ≤ x6 → ((x4 = 0 → B_X7_mayBegin_80 G10 G20 s0 x1 x3 x5 x6 Q) ∧ (¬ x4 = 0 → vp_in x6 6 ∧ ((¬ ((s0.2.1 23) x6.toNatClampNeg) = x5 → B_X7_mayBegin_76 G10 G20 s0 x1 x3 x5 x6 Q) ∧ (((s0.2.1 23) x6.toNatClampNeg) = x5 → vp_in x6 6 ∧ wp_X7_has x3 ((s0.2.1 22) x6.toNatClampNeg) (fun r_15 => vp_in x6 6 ∧ ((¬ ((s0.2.1 24) x6.toNatClampNeg) = (1 : Int32) → B_X7_mayBegin_73 G10 G20 s0 x1 x3 x5 x6 (0 : Int32) r_15 Q) ∧ (((s0.2.1 24) x6.toNatClampNeg) = (1 : Int32) → B_X7_mayBegin_73 G10 G20 s0 x1 x3 x5 x6 (1 : Int32) r_15 Q)))))))))
def B_X7_mayBegin_20 (G10 : (Int32 × Int32 × Int32 × Int32) → Prop) (s0 : CS) (x1 : Int32) (x3 : Int32) (x4 : Int32) (x5 : Int32) (x6 : Int32) (Q : Int32 → Prop) : Prop := LOOP (fun (G20 : (Int32 × Int32 × Int32 × Int32 × Int32) → Prop) z => LB_X7_mayBegin_20 G20 G10 s0 z.1 z.2.1 z.2.2.1 z.2.2.2.1 z.2.2.2.2 Q) (x1, x3, x4, x5, x6)
def LB_X7_mayBegin_10 (G10 : (Int32 × Int32 × Int32 × Int32) → Prop) (s0 : CS) (x1 : Int32) (x3 : Int32) (x4 : Int32) (x5 : Int32) (Q : Int32 → Prop) : Prop := (((10 : Int32) ≤ x5 → narrow .boolean (.int x4) = .int x4 ∧ Q x4) ∧ (¬ (10 : Int32) ≤ x5 → B_X7_mayBegin_20 G10 s0 x1 x3 x4 x5 (0 : Int32) Q))
def B_X7_mayBegin_10 (s0 : CS) (x1 : Int32) (x3 : Int32) (x4 : Int32) (x5 : Int32) (Q : Int32 → Prop) : Prop := LOOP (fun (G10 : (Int32 × Int32 × Int32 × Int32) → Prop) z => LB_X7_mayBegin_10 G10 s0 z.1 z.2.1 z.2.2.1 z.2.2.2 Q) (x1, x3, x4, x5)
def wp_X7_mayBegin (p0 : Int32) (p1 : Int32) (s0 : CS) (Q : Int32 → Prop) : Prop := ∀ x3_19 : Int32, x3_19 = ((1 : Int32) <<< (p1 &&& 31)) → B_X7_mayBegin_10 s0 p0 x3_19 (1 : Int32) (0 : Int32) Q
set_option maxHeartbeats 4000000 in
set_option maxRecDepth 100000 in
theorem c_X7_mayBegin (l : Launch) (D : va_G) (cI cZ cW : ClassId) (q0 : Nat → Nat) (p0 : Int32) (p1 : Int32) (s0 : CS) (Q : Int32 → Prop) (hf : wp_X7_mayBegin p0 p1 s0 Q) : Met l yX7_mayBegin (wsA yX7_mayBegin cX7_mayBegin 8 (some .boolean)) ({ frames := 3, cells := 0, slots := 0, locals := 66 }) (PR D cI cZ cW [.ref (q0 0), .int p0, .int p1] (wM cI cZ q0 s0)) (vp_Si Q) 0 0 (fun _ => False) := by
  refine Met.ofW (cc := cX7_mayBegin) (maxL := 8) (ret := (some .boolean)) (by decide) rfl ?_
  intro p e s m args below meth c s₁ B hml hv
  obtain ⟨rfl, hP, hK⟩ := hv
  have hx := B.exec
  have hb := B.bytes
  have hr := B.returns
  have hts := atoms_spec (ws := (wsA yX7_mayBegin cX7_mayBegin 8 (some .boolean))) B.pre
  have ht : ∀ w ∈ lw_g, w.before _ s = true := fun w h => hts w (List.mem_cons_of_mem _ h)
  have hown : s.vm.findClass RX7 = some m.cls := findClass_of_methodNamed B.named
  have hlocks := B.notSynchronized
  have hl := lv_entry ([.ref (q0 0), .int p0, .int p1]) (n := 8) (Nat.le_of_ble_eq_true rfl)
  rw [lg_entry_eq]
  generalize (lg_sl ([.ref (q0 0), .int p0, .int p1]) ++ List.replicate (8 - (lg_sl ([.ref (q0 0), .int p0, .int p1])).length) Slot.unset).toArray = ls at hl ⊢
  have hl : lv_has ls 8 [(0, .ref (q0 0)), (1, .int p0), (2, .int p1)] := hl
  unfold wp_X7_mayBegin at hf
  have k_10 : ∀ (x1 : Int32) (x3 : Int32) (x4 : Int32) (x5 : Int32) (ls : Array Slot), B_X7_mayBegin_10 s0 x1 x3 x4 x5 Q → lv_has ls 8 [(0, .ref (q0 0)), (1, .int x1), (3, .int x3), (4, .int x4), (5, .int x5)] → W p l e (headSpec (wsA yX7_mayBegin cX7_mayBegin 8 (some .boolean)) ({ frames := 3, cells := 0, slots := 0, locals := 66 })).room s m (#[.ref (q0 0), .int p0, .int p1] : Array Value) below meth c s.heap [] 0 0 (MQ below (vp_Si Q) (#[.ref (q0 0), .int p0, .int p1] : Array Value) s 0 0 (fun _ => False)) (F0 m 10 ls []) := by
    intro x1 x3 x4 x5 ls hf hl
    unfold B_X7_mayBegin_10 at hf
    obtain ⟨I_10, ⟨n0_10, hI0_10⟩, hst_10⟩ := hf
    have main_10 : ∀ (n : Nat) (x1 : Int32) (x3 : Int32) (x4 : Int32) (x5 : Int32) (ls : Array Slot), I_10 n (x1, x3, x4, x5) → lv_has ls 8 [(0, .ref (q0 0)), (1, .int x1), (3, .int x3), (4, .int x4), (5, .int x5)] → W p l e (headSpec (wsA yX7_mayBegin cX7_mayBegin 8 (some .boolean)) ({ frames := 3, cells := 0, slots := 0, locals := 66 })).room s m (#[.ref (q0 0), .int p0, .int p1] : Array Value) below meth c s.heap [] 0 0 (MQ below (vp_Si Q) (#[.ref (q0 0), .int p0, .int p1] : Array Value) s 0 0 (fun _ => False)) (F0 m 10 ls []) := by
      intro n
      induction n using Nat.strongRecOn with
      | _ n_10 ih_10 =>
      intro x1 x3 x4 x5 ls hI hl
      have hf : LB_X7_mayBegin_10 (fun z => ∃ k, k < n_10 ∧ I_10 k z) s0 x1 x3 x4 x5 Q := hst_10 n_10 (x1, x3, x4, x5) hI
      have hG_10 : ∀ (x1 : Int32) (x3 : Int32) (x4 : Int32) (x5 : Int32) (ls : Array Slot), (∃ k, k < n_10 ∧ I_10 k (x1, x3, x4, x5)) → lv_has ls 8 [(0, .ref (q0 0)), (1, .int x1), (3, .int x3), (4, .int x4), (5, .int x5)] → W p l e (headSpec (wsA yX7_mayBegin cX7_mayBegin 8 (some .boolean)) ({ frames := 3, cells := 0, slots := 0, locals := 66 })).room s m (#[.ref (q0 0), .int p0, .int p1] : Array Value) below meth c s.heap [] 0 0 (MQ below (vp_Si Q) (#[.ref (q0 0), .int p0, .int p1] : Array Value) s 0 0 (fun _ => False)) (F0 m 10 ls []) := by
        rintro x1 x3 x4 x5 ls ⟨k, hk, hI⟩ hl
        exact ih_10 k hk x1 x3 x4 x5 ls hI hl
      unfold LB_X7_mayBegin_10 at hf
      have k_92 : ∀ (x1 : Int32) (x3 : Int32) (x4 : Int32) (x5 : Int32) (x6 : Int32) (ls : Array Slot), B_X7_mayBegin_92 (fun z => ∃ k, k < n_10 ∧ I_10 k z) s0 x1 x3 x4 x5 x6 Q → lv_has ls 8 [(0, .ref (q0 0)), (1, .int x1), (3, .int x3), (4, .int x4), (5, .int x5), (6, .int x6)] → W p l e (headSpec (wsA yX7_mayBegin cX7_mayBegin 8 (some .boolean)) ({ frames := 3, cells := 0, slots := 0, locals := 66 })).room s m (#[.ref (q0 0), .int p0, .int p1] : Array Value) below meth c s.heap [] 0 0 (MQ below (vp_Si Q) (#[.ref (q0 0), .int p0, .int p1] : Array Value) s 0 0 (fun _ => False)) (F0 m 92 ls []) := by
        intro x1 x3 x4 x5 x6 ls hf hl
        unfold B_X7_mayBegin_92 at hf
        obtain ⟨I_92, ⟨n0_92, hI0_92⟩, hst_92⟩ := hf
        have main_92 : ∀ (n : Nat) (x1 : Int32) (x3 : Int32) (x4 : Int32) (x5 : Int32) (x6 : Int32) (ls : Array Slot), I_92 n (x1, x3, x4, x5, x6) → lv_has ls 8 [(0, .ref (q0 0)), (1, .int x1), (3, .int x3), (4, .int x4), (5, .int x5), (6, .int x6)] → W p l e (headSpec (wsA yX7_mayBegin cX7_mayBegin 8 (some .boolean)) ({ frames := 3, cells := 0, slots := 0, locals := 66 })).room s m (#[.ref (q0 0), .int p0, .int p1] : Array Value) below meth c s.heap [] 0 0 (MQ below (vp_Si Q) (#[.ref (q0 0), .int p0, .int p1] : Array Value) s 0 0 (fun _ => False)) (F0 m 92 ls []) := by
          intro n
          induction n using Nat.strongRecOn with
          | _ n_92 ih_92 =>
          intro x1 x3 x4 x5 x6 ls hI hl
          have hf : LB_X7_mayBegin_92 (fun z => ∃ k, k < n_92 ∧ I_92 k z) (fun z => ∃ k, k < n_10 ∧ I_10 k z) s0 x1 x3 x4 x5 x6 Q := hst_92 n_92 (x1, x3, x4, x5, x6) hI
          have hG_92 : ∀ (x1 : Int32) (x3 : Int32) (x4 : Int32) (x5 : Int32) (x6 : Int32) (ls : Array Slot), (∃ k, k < n_92 ∧ I_92 k (x1, x3, x4, x5, x6)) → lv_has ls 8 [(0, .ref (q0 0)), (1, .int x1), (3, .int x3), (4, .int x4), (5, .int x5), (6, .int x6)] → W p l e (headSpec (wsA yX7_mayBegin cX7_mayBegin 8 (some .boolean)) ({ frames := 3, cells := 0, slots := 0, locals := 66 })).room s m (#[.ref (q0 0), .int p0, .int p1] : Array Value) below meth c s.heap [] 0 0 (MQ below (vp_Si Q) (#[.ref (q0 0), .int p0, .int p1] : Array Value) s 0 0 (fun _ => False)) (F0 m 92 ls []) := by
            rintro x1 x3 x4 x5 x6 ls ⟨k, hk, hI⟩ hl
            exact ih_92 k hk x1 x3 x4 x5 x6 ls hI hl
          unfold LB_X7_mayBegin_92 at hf
          have k_137 : ∀ (x1 : Int32) (x4 : Int32) (x5 : Int32) (x6 : Int32) (t0 : Int32) (t1 : Int32) (ls : Array Slot), B_X7_mayBegin_137 (fun z => ∃ k, k < n_10 ∧ I_10 k z) (fun z => ∃ k, k < n_92 ∧ I_92 k z) s0 x1 x4 x5 x6 t0 t1 Q → lv_has ls 8 [(0, .ref (q0 0)), (1, .int x1), (4, .int x4), (5, .int x5), (6, .int x6)] → W p l e (headSpec (wsA yX7_mayBegin cX7_mayBegin 8 (some .boolean)) ({ frames := 3, cells := 0, slots := 0, locals := 66 })).room s m (#[.ref (q0 0), .int p0, .int p1] : Array Value) below meth c s.heap [] 0 0 (MQ below (vp_Si Q) (#[.ref (q0 0), .int p0, .int p1] : Array Value) s 0 0 (fun _ => False)) (F0 m 137 ls [.int t0, .int t1]) := by
            intro x1 x4 x5 x6 t0 t1 ls hf hl
            unfold B_X7_mayBegin_137 at hf
            refine lv_ior hx hb dX7_mayBegin_137 ?_
            refine lv_topi (fun x3_1 ex3_1 => ?_)
            have hf := hf x3_1 ex3_1
            refine lv_istore_n (lv' := [(3, .int x3_1), (0, .ref (q0 0)), (1, .int x1), (4, .int x4), (5, .int x5), (6, .int x6)]) hx hb dX7_mayBegin_138 rfl hl (by decide) rfl (fun ls hl => ?_)
            obtain ⟨x6_2, ex6_2⟩ : ∃ y : Int32, y = x6 + (1 : Int32) := ⟨_, rfl⟩
            have hf := hf x6_2 ex6_2
            refine lv_iinc (v := x6_2) (lv' := [(6, .int x6_2), (3, .int x3_1), (0, .ref (q0 0)), (1, .int x1), (4, .int x4), (5, .int x5)]) hx hb dX7_mayBegin_139 hl (k := 5) rfl (by rw [ex6_2]; rfl) (by decide) rfl (fun ls hl => ?_)
            refine lv_goto (tgt := 92) hx hb dX7_mayBegin_142 (by decide) ?_
            exact hG_92 x1 x3_1 x4 x5 x6_2 ls hf (lv_sub hl [2, 3, 1, 4, 5, 0] rfl)
          have k_104 : ∀ (x1 : Int32) (x3 : Int32) (x4 : Int32) (x5 : Int32) (x6 : Int32) (t0 : Int32) (t1 : Int32) (ls : Array Slot), B_X7_mayBegin_104 (fun z => ∃ k, k < n_10 ∧ I_10 k z) (fun z => ∃ k, k < n_92 ∧ I_92 k z) s0 x1 x3 x4 x5 x6 t0 t1 Q → lv_has ls 8 [(0, .ref (q0 0)), (1, .int x1), (3, .int x3), (4, .int x4), (5, .int x5), (6, .int x6)] → W p l e (headSpec (wsA yX7_mayBegin cX7_mayBegin 8 (some .boolean)) ({ frames := 3, cells := 0, slots := 0, locals := 66 })).room s m (#[.ref (q0 0), .int p0, .int p1] : Array Value) below meth c s.heap [] 0 0 (MQ below (vp_Si Q) (#[.ref (q0 0), .int p0, .int p1] : Array Value) s 0 0 (fun _ => False)) (F0 m 104 ls [.int t0, .int t1]) := by
            intro x1 x3 x4 x5 x6 t0 t1 ls hf hl
            unfold B_X7_mayBegin_104 at hf
            refine lv_icmp_ge (tgt := 145) hx hb dX7_mayBegin_104 (by decide) (fun c_3 => ?_) (fun c_3 => ?_)
            · have hf := hf.1 c_3
              obtain ⟨x5_4, ex5_4⟩ : ∃ y : Int32, y = x5 + (1 : Int32) := ⟨_, rfl⟩
              have hf := hf x5_4 ex5_4
              refine lv_iinc (v := x5_4) (lv' := [(5, .int x5_4), (0, .ref (q0 0)), (1, .int x1), (3, .int x3), (4, .int x4), (6, .int x6)]) hx hb dX7_mayBegin_145 hl (k := 4) rfl (by rw [ex5_4]; rfl) (by decide) rfl (fun ls hl => ?_)
              refine lv_goto (tgt := 10) hx hb dX7_mayBegin_148 (by decide) ?_
              exact hG_10 x1 x3 x4 x5_4 ls hf (lv_sub hl [1, 2, 3, 4, 0] rfl)
            · have hf := hf.2 c_3
              refine lv_aload_n hx hb dX7_mayBegin_107 rfl (lv_at hl 0 rfl) ?_
              refine lv_iload_n hx hb dX7_mayBegin_108 rfl (lv_at hl 2 rfl) ?_
              refine lv_iload_n hx hb dX7_mayBegin_109 rfl (lv_at hl 1 rfl) ?_
              refine lv_ldc (v := (1048575 : Int32)) hx hb hown (ht _ tw_772) dX7_mayBegin_110 ?_
              refine lv_iload_n hx hb dX7_mayBegin_112 rfl (lv_at hl 2 rfl) ?_
              refine lv_iconst (v := (-1 : Int32)) hx hb dX7_mayBegin_113 (by decide) ?_
              refine lv_ixor hx hb dX7_mayBegin_114 ?_
              refine lv_iand hx hb dX7_mayBegin_115 ?_
              have hPc : va_P D classes (wM cI cZ q0 s0) s.heap := hP
              refine vp_callSi (W.runV (As := [.int x3, .int x1, .int ((1048575 : Int32) &&& (x3 ^^^ (-1 : Int32)))]) (rest := []) ⟨hx, hb, hml, hown, hts⟩ (c_X7_takes l D cI cZ cW q0 x3 x1 ((1048575 : Int32) &&& (x3 ^^^ (-1 : Int32))) s0 _ hf) ⟨callB_of 3 hts (gA tw_842) rfl rfl rfl (ht _ tw_7) (ht _ tw_839) hd_X7_takes ⟨Nat.le_of_ble_eq_true rfl, Nat.le_of_ble_eq_true rfl⟩, ht _ tw_841, ht _ twp_31⟩ ⟨PR_blind, va_recv hK hP (ci := 5) (q0 := 0) rfl eM_0, fun U hU hW => PR_mk hPc hK hU hW⟩ rfl rfl hl.1 rfl (lv_room (Nat.le_of_ble_eq_true rfl)) dX7_mayBegin_116 ⟨Nat.zero_le _, Nat.zero_le _⟩) (fun r_5 hf => ?_)
              refine lv_istore (lv' := [(7, .int r_5), (0, .ref (q0 0)), (1, .int x1), (3, .int x3), (4, .int x4), (5, .int x5), (6, .int x6)]) hx hb dX7_mayBegin_119 hl (by decide) rfl (fun ls hl => ?_)
              refine lv_iload_n hx hb dX7_mayBegin_121 rfl (lv_at hl 3 rfl) ?_
              refine lv_iload hx hb dX7_mayBegin_122 (lv_at hl 0 rfl) ?_
              refine lv_bipush (v := (-9 : Int32)) hx hb dX7_mayBegin_124 (by decide) ?_
              refine lv_icmp_ne (tgt := 133) hx hb dX7_mayBegin_126 (by decide) (fun c_6 => ?_) (fun c_6 => ?_)
              · have hf := hf.1 c_6
                refine lv_iconst (v := (1 : Int32)) hx hb dX7_mayBegin_133 (by decide) ?_
                refine lv_iload hx hb dX7_mayBegin_134 (lv_at hl 0 rfl) ?_
                refine lv_ishl hx hb dX7_mayBegin_136 ?_
                exact k_137 x1 x4 x5 x6 ((1 : Int32) <<< (r_5 &&& 31)) x3 ls hf (lv_sub hl [1, 2, 4, 5, 6] rfl)
              · have hf := hf.2 c_6
                refine lv_iconst (v := (0 : Int32)) hx hb dX7_mayBegin_129 (by decide) ?_
                refine lv_goto (tgt := 137) hx hb dX7_mayBegin_130 (by decide) ?_
                exact k_137 x1 x4 x5 x6 (0 : Int32) x3 ls hf (lv_sub hl [1, 2, 4, 5, 6] rfl)
          refine lv_iload hx hb dX7_mayBegin_92 (lv_at hl 5 rfl) ?_
          refine lv_iload_n hx hb dX7_mayBegin_94 rfl (lv_at hl 1 rfl) ?_
          refine lv_iconst (v := (1 : Int32)) hx hb dX7_mayBegin_95 (by decide) ?_
          refine lv_icmp_ne (tgt := 103) hx hb dX7_mayBegin_96 (by decide) (fun c_7 => ?_) (fun c_7 => ?_)
          · have hf := hf.1 c_7
            refine lv_iconst (v := (1 : Int32)) hx hb dX7_mayBegin_103 (by decide) ?_
            exact k_104 x1 x3 x4 x5 x6 (1 : Int32) x6 ls hf (lv_sub hl [0, 1, 2, 3, 4, 5] rfl)
          · have hf := hf.2 c_7
            refine lv_iconst (v := (2 : Int32)) hx hb dX7_mayBegin_99 (by decide) ?_
            refine lv_goto (tgt := 104) hx hb dX7_mayBegin_100 (by decide) ?_
            exact k_104 x1 x3 x4 x5 x6 (2 : Int32) x6 ls hf (lv_sub hl [0, 1, 2, 3, 4, 5] rfl)
        exact main_92 n0_92 x1 x3 x4 x5 x6 ls hI0_92 hl
      have k_20 : ∀ (x1 : Int32) (x3 : Int32) (x4 : Int32) (x5 : Int32) (x6 : Int32) (ls : Array Slot), B_X7_mayBegin_20 (fun z => ∃ k, k < n_10 ∧ I_10 k z) s0 x1 x3 x4 x5 x6 Q → lv_has ls 8 [(0, .ref (q0 0)), (1, .int x1), (3, .int x3), (4, .int x4), (5, .int x5), (6, .int x6)] → W p l e (headSpec (wsA yX7_mayBegin cX7_mayBegin 8 (some .boolean)) ({ frames := 3, cells := 0, slots := 0, locals := 66 })).room s m (#[.ref (q0 0), .int p0, .int p1] : Array Value) below meth c s.heap [] 0 0 (MQ below (vp_Si Q) (#[.ref (q0 0), .int p0, .int p1] : Array Value) s 0 0 (fun _ => False)) (F0 m 20 ls []) := by
        intro x1 x3 x4 x5 x6 ls hf hl
        unfold B_X7_mayBegin_20 at hf
        obtain ⟨I_20, ⟨n0_20, hI0_20⟩, hst_20⟩ := hf
        have main_20 : ∀ (n : Nat) (x1 : Int32) (x3 : Int32) (x4 : Int32) (x5 : Int32) (x6 : Int32) (ls : Array Slot), I_20 n (x1, x3, x4, x5, x6) → lv_has ls 8 [(0, .ref (q0 0)), (1, .int x1), (3, .int x3), (4, .int x4), (5, .int x5), (6, .int x6)] → W p l e (headSpec (wsA yX7_mayBegin cX7_mayBegin 8 (some .boolean)) ({ frames := 3, cells := 0, slots := 0, locals := 66 })).room s m (#[.ref (q0 0), .int p0, .int p1] : Array Value) below meth c s.heap [] 0 0 (MQ below (vp_Si Q) (#[.ref (q0 0), .int p0, .int p1] : Array Value) s 0 0 (fun _ => False)) (F0 m 20 ls []) := by
          intro n
          induction n using Nat.strongRecOn with
          | _ n_20 ih_20 =>
          intro x1 x3 x4 x5 x6 ls hI hl
          have hf : LB_X7_mayBegin_20 (fun z => ∃ k, k < n_20 ∧ I_20 k z) (fun z => ∃ k, k < n_10 ∧ I_10 k z) s0 x1 x3 x4 x5 x6 Q := hst_20 n_20 (x1, x3, x4, x5, x6) hI
          have hG_20 : ∀ (x1 : Int32) (x3 : Int32) (x4 : Int32) (x5 : Int32) (x6 : Int32) (ls : Array Slot), (∃ k, k < n_20 ∧ I_20 k (x1, x3, x4, x5, x6)) → lv_has ls 8 [(0, .ref (q0 0)), (1, .int x1), (3, .int x3), (4, .int x4), (5, .int x5), (6, .int x6)] → W p l e (headSpec (wsA yX7_mayBegin cX7_mayBegin 8 (some .boolean)) ({ frames := 3, cells := 0, slots := 0, locals := 66 })).room s m (#[.ref (q0 0), .int p0, .int p1] : Array Value) below meth c s.heap [] 0 0 (MQ below (vp_Si Q) (#[.ref (q0 0), .int p0, .int p1] : Array Value) s 0 0 (fun _ => False)) (F0 m 20 ls []) := by
            rintro x1 x3 x4 x5 x6 ls ⟨k, hk, hI⟩ hl
            exact ih_20 k hk x1 x3 x4 x5 x6 ls hI hl
          unfold LB_X7_mayBegin_20 at hf
          have k_81 : ∀ (x1 : Int32) (x3 : Int32) (x5 : Int32) (x6 : Int32) (t0 : Int32) (ls : Array Slot), B_X7_mayBegin_81 (fun z => ∃ k, k < n_10 ∧ I_10 k z) (fun z => ∃ k, k < n_20 ∧ I_20 k z) s0 x1 x3 x5 x6 t0 Q → lv_has ls 8 [(0, .ref (q0 0)), (1, .int x1), (3, .int x3), (5, .int x5), (6, .int x6)] → W p l e (headSpec (wsA yX7_mayBegin cX7_mayBegin 8 (some .boolean)) ({ frames := 3, cells := 0, slots := 0, locals := 66 })).room s m (#[.ref (q0 0), .int p0, .int p1] : Array Value) below meth c s.heap [] 0 0 (MQ below (vp_Si Q) (#[.ref (q0 0), .int p0, .int p1] : Array Value) s 0 0 (fun _ => False)) (F0 m 81 ls [.int t0]) := by
            intro x1 x3 x5 x6 t0 ls hf hl
            unfold B_X7_mayBegin_81 at hf
            refine lv_istore (lv' := [(4, .int t0), (0, .ref (q0 0)), (1, .int x1), (3, .int x3), (5, .int x5), (6, .int x6)]) hx hb dX7_mayBegin_81 hl (by decide) rfl (fun ls hl => ?_)
            obtain ⟨x6_8, ex6_8⟩ : ∃ y : Int32, y = x6 + (1 : Int32) := ⟨_, rfl⟩
            have hf := hf x6_8 ex6_8
            refine lv_iinc (v := x6_8) (lv' := [(6, .int x6_8), (4, .int t0), (0, .ref (q0 0)), (1, .int x1), (3, .int x3), (5, .int x5)]) hx hb dX7_mayBegin_83 hl (k := 5) rfl (by rw [ex6_8]; rfl) (by decide) rfl (fun ls hl => ?_)
            refine lv_goto (tgt := 20) hx hb dX7_mayBegin_86 (by decide) ?_
            exact hG_20 x1 x3 t0 x5 x6_8 ls hf (lv_sub hl [2, 3, 4, 1, 5, 0] rfl)
          have k_80 : ∀ (x1 : Int32) (x3 : Int32) (x5 : Int32) (x6 : Int32) (ls : Array Slot), B_X7_mayBegin_80 (fun z => ∃ k, k < n_10 ∧ I_10 k z) (fun z => ∃ k, k < n_20 ∧ I_20 k z) s0 x1 x3 x5 x6 Q → lv_has ls 8 [(0, .ref (q0 0)), (1, .int x1), (3, .int x3), (5, .int x5), (6, .int x6)] → W p l e (headSpec (wsA yX7_mayBegin cX7_mayBegin 8 (some .boolean)) ({ frames := 3, cells := 0, slots := 0, locals := 66 })).room s m (#[.ref (q0 0), .int p0, .int p1] : Array Value) below meth c s.heap [] 0 0 (MQ below (vp_Si Q) (#[.ref (q0 0), .int p0, .int p1] : Array Value) s 0 0 (fun _ => False)) (F0 m 80 ls []) := by
            intro x1 x3 x5 x6 ls hf hl
            unfold B_X7_mayBegin_80 at hf
            refine lv_iconst (v := (0 : Int32)) hx hb dX7_mayBegin_80 (by decide) ?_
            exact k_81 x1 x3 x5 x6 (0 : Int32) ls hf (lv_sub hl [0, 1, 2, 3, 4] rfl)
          have k_76 : ∀ (x1 : Int32) (x3 : Int32) (x5 : Int32) (x6 : Int32) (ls : Array Slot), B_X7_mayBegin_76 (fun z => ∃ k, k < n_10 ∧ I_10 k z) (fun z => ∃ k, k < n_20 ∧ I_20 k z) s0 x1 x3 x5 x6 Q → lv_has ls 8 [(0, .ref (q0 0)), (1, .int x1), (3, .int x3), (5, .int x5), (6, .int x6)] → W p l e (headSpec (wsA yX7_mayBegin cX7_mayBegin 8 (some .boolean)) ({ frames := 3, cells := 0, slots := 0, locals := 66 })).room s m (#[.ref (q0 0), .int p0, .int p1] : Array Value) below meth c s.heap [] 0 0 (MQ below (vp_Si Q) (#[.ref (q0 0), .int p0, .int p1] : Array Value) s 0 0 (fun _ => False)) (F0 m 76 ls []) := by
            intro x1 x3 x5 x6 ls hf hl
            unfold B_X7_mayBegin_76 at hf
            refine lv_iconst (v := (1 : Int32)) hx hb dX7_mayBegin_76 (by decide) ?_
            refine lv_goto (tgt := 81) hx hb dX7_mayBegin_77 (by decide) ?_
            exact k_81 x1 x3 x5 x6 (1 : Int32) ls hf (lv_sub hl [0, 1, 2, 3, 4] rfl)
          have k_73 : ∀ (x1 : Int32) (x3 : Int32) (x5 : Int32) (x6 : Int32) (t0 : Int32) (t1 : Int32) (ls : Array Slot), B_X7_mayBegin_73 (fun z => ∃ k, k < n_10 ∧ I_10 k z) (fun z => ∃ k, k < n_20 ∧ I_20 k z) s0 x1 x3 x5 x6 t0 t1 Q → lv_has ls 8 [(0, .ref (q0 0)), (1, .int x1), (3, .int x3), (5, .int x5), (6, .int x6)] → W p l e (headSpec (wsA yX7_mayBegin cX7_mayBegin 8 (some .boolean)) ({ frames := 3, cells := 0, slots := 0, locals := 66 })).room s m (#[.ref (q0 0), .int p0, .int p1] : Array Value) below meth c s.heap [] 0 0 (MQ below (vp_Si Q) (#[.ref (q0 0), .int p0, .int p1] : Array Value) s 0 0 (fun _ => False)) (F0 m 73 ls [.int t0, .int t1]) := by
            intro x1 x3 x5 x6 t0 t1 ls hf hl
            unfold B_X7_mayBegin_73 at hf
            refine lv_icmp_ne (tgt := 80) hx hb dX7_mayBegin_73 (by decide) (fun c_9 => ?_) (fun c_9 => ?_)
            · have hf := hf.1 c_9
              exact k_80 x1 x3 x5 x6 ls hf (lv_sub hl [0, 1, 2, 3, 4] rfl)
            · have hf := hf.2 c_9
              exact k_76 x1 x3 x5 x6 ls hf (lv_sub hl [0, 1, 2, 3, 4] rfl)
          refine lv_iload hx hb dX7_mayBegin_20 (lv_at hl 5 rfl) ?_
          refine lv_aload_n hx hb dX7_mayBegin_22 rfl (lv_at hl 0 rfl) ?_
          refine va_get (D := D) (ci := 5) (v := .int (s0.1 21)) (C := RX7) (T := TX7) (N := 28) hx hb ht inX7 hown hK hP 0 eM_0 rfl 21 (by decide) (ht _ tw_676) (fun _ h9 => h9) rfl dX7_mayBegin_23 ?_
          refine lv_icmp_ge (tgt := 89) hx hb dX7_mayBegin_26 (by decide) (fun c_10 => ?_) (fun c_10 => ?_)
          · have hf := hf.1 c_10
            refine lv_iconst (v := (0 : Int32)) hx hb dX7_mayBegin_89 (by decide) ?_
            refine lv_istore (lv' := [(6, .int (0 : Int32)), (0, .ref (q0 0)), (1, .int x1), (3, .int x3), (4, .int x4), (5, .int x5)]) hx hb dX7_mayBegin_90 hl (by decide) rfl (fun ls hl => ?_)
            exact k_92 x1 x3 x4 x5 (0 : Int32) ls hf (lv_sub hl [1, 2, 3, 4, 5, 0] rfl)
          · have hf := hf.2 c_10
            refine lv_iload hx hb dX7_mayBegin_29 (lv_at hl 3 rfl) ?_
            refine lv_if_eq (tgt := 80) hx hb dX7_mayBegin_31 (by decide) (fun c_11 => ?_) (fun c_11 => ?_)
            · have hf := hf.1 c_11
              exact k_80 x1 x3 x5 x6 ls hf (lv_sub hl [0, 1, 2, 4, 5] rfl)
            · have hf := hf.2 c_11
              refine lv_aload_n hx hb dX7_mayBegin_34 rfl (lv_at hl 0 rfl) ?_
              refine va_get (D := D) (ci := 5) (v := .ref (q0 12)) (C := RX7) (T := TX7) (N := 28) hx hb ht inX7 hown hK hP 0 eM_0 rfl 23 (by decide) (ht _ tw_678) (fun _ h9 => h9) rfl dX7_mayBegin_35 ?_
              refine lv_iload hx hb dX7_mayBegin_38 (lv_at hl 5 rfl) ?_
              obtain ⟨hi_12, hf⟩ := hf
              refine va_iald hx hb hK hP 12 0 eM_12 rfl hi_12 dX7_mayBegin_40 ?_
              refine lv_iload hx hb dX7_mayBegin_41 (lv_at hl 4 rfl) ?_
              refine lv_icmp_ne (tgt := 76) hx hb dX7_mayBegin_43 (by decide) (fun c_13 => ?_) (fun c_13 => ?_)
              · have hf := hf.1 c_13
                exact k_76 x1 x3 x5 x6 ls hf (lv_sub hl [0, 1, 2, 4, 5] rfl)
              · have hf := hf.2 c_13
                refine lv_iload_n hx hb dX7_mayBegin_46 rfl (lv_at hl 2 rfl) ?_
                refine lv_aload_n hx hb dX7_mayBegin_47 rfl (lv_at hl 0 rfl) ?_
                refine va_get (D := D) (ci := 5) (v := .ref (q0 11)) (C := RX7) (T := TX7) (N := 28) hx hb ht inX7 hown hK hP 0 eM_0 rfl 22 (by decide) (ht _ tw_677) (fun _ h9 => h9) rfl dX7_mayBegin_48 ?_
                refine lv_iload hx hb dX7_mayBegin_51 (lv_at hl 5 rfl) ?_
                obtain ⟨hi_14, hf⟩ := hf
                refine va_iald hx hb hK hP 11 0 eM_11 rfl hi_14 dX7_mayBegin_53 ?_
                have hPc : va_P D classes ([] : va_W) s.heap := hP.sub [] rfl
                refine vp_callSi (W.runS (As := [.int x3, .int ((s0.2.1 22) x6.toNatClampNeg)]) (rest := []) ⟨hx, hb, hml, hown, hts⟩ (c_X7_has l D cI cZ cW  x3 ((s0.2.1 22) x6.toNatClampNeg) _ hf) ⟨callB_of 2 hts (gA tw_771) rfl rfl rfl (ht _ tw_7) (ht _ tw_769) hd_X7_has ⟨Nat.le_of_ble_eq_true rfl, Nat.le_of_ble_eq_true rfl⟩, ht _ tw_770⟩ ⟨PR_blind, fun U hU hW => PR_mk hPc hK hU hW⟩ rfl rfl hl.1 rfl (lv_room (Nat.le_of_ble_eq_true rfl)) dX7_mayBegin_54 ⟨Nat.zero_le _, Nat.zero_le _⟩) (fun r_15 hf => ?_)
                refine lv_aload_n hx hb dX7_mayBegin_57 rfl (lv_at hl 0 rfl) ?_
                refine va_get (D := D) (ci := 5) (v := .ref (q0 13)) (C := RX7) (T := TX7) (N := 28) hx hb ht inX7 hown hK hP 0 eM_0 rfl 24 (by decide) (ht _ tw_679) (fun _ h9 => h9) rfl dX7_mayBegin_58 ?_
                refine lv_iload hx hb dX7_mayBegin_61 (lv_at hl 5 rfl) ?_
                obtain ⟨hi_16, hf⟩ := hf
                refine va_iald hx hb hK hP 13 0 eM_13 rfl hi_16 dX7_mayBegin_63 ?_
                refine lv_iconst (v := (1 : Int32)) hx hb dX7_mayBegin_64 (by decide) ?_
                refine lv_icmp_ne (tgt := 72) hx hb dX7_mayBegin_65 (by decide) (fun c_17 => ?_) (fun c_17 => ?_)
                · have hf := hf.1 c_17
                  refine lv_iconst (v := (0 : Int32)) hx hb dX7_mayBegin_72 (by decide) ?_
                  exact k_73 x1 x3 x5 x6 (0 : Int32) r_15 ls hf (lv_sub hl [0, 1, 2, 4, 5] rfl)
                · have hf := hf.2 c_17
                  refine lv_iconst (v := (1 : Int32)) hx hb dX7_mayBegin_68 (by decide) ?_
                  refine lv_goto (tgt := 73) hx hb dX7_mayBegin_69 (by decide) ?_
                  exact k_73 x1 x3 x5 x6 (1 : Int32) r_15 ls hf (lv_sub hl [0, 1, 2, 4, 5] rfl)
        exact main_20 n0_20 x1 x3 x4 x5 x6 ls hI0_20 hl
      refine lv_iload hx hb dX7_mayBegin_10 (lv_at hl 4 rfl) ?_
      refine lv_bipush (v := (10 : Int32)) hx hb dX7_mayBegin_12 (by decide) ?_
      refine lv_icmp_ge (tgt := 151) hx hb dX7_mayBegin_14 (by decide) (fun c_18 => ?_) (fun c_18 => ?_)
      · have hf := hf.1 c_18
        refine lv_iload hx hb dX7_mayBegin_151 (lv_at hl 3 rfl) ?_
        obtain ⟨hn, hf⟩ := hf
        exact W.zret (v := x4) hx hb hr hn (fun t ht hW => ⟨x4, rfl, hf, ht⟩) (fun q h => absurd h List.not_mem_nil) dX7_mayBegin_153
      · have hf := hf.2 c_18
        refine lv_iconst (v := (0 : Int32)) hx hb dX7_mayBegin_17 (by decide) ?_
        refine lv_istore (lv' := [(6, .int (0 : Int32)), (0, .ref (q0 0)), (1, .int x1), (3, .int x3), (4, .int x4), (5, .int x5)]) hx hb dX7_mayBegin_18 hl (by decide) rfl (fun ls hl => ?_)
        exact k_20 x1 x3 x4 x5 (0 : Int32) ls hf (lv_sub hl [1, 2, 3, 4, 5, 0] rfl)
    exact main_10 n0_10 x1 x3 x4 x5 ls hI0_10 hl
  refine lv_iconst (v := (1 : Int32)) hx hb dX7_mayBegin_0 (by decide) ?_
  refine lv_iload_n hx hb dX7_mayBegin_1 rfl (lv_at hl 2 rfl) ?_
  refine lv_ishl hx hb dX7_mayBegin_2 ?_
  refine lv_topi (fun x3_19 ex3_19 => ?_)
  have hf := hf x3_19 ex3_19
  refine lv_istore_n (lv' := [(3, .int x3_19), (0, .ref (q0 0)), (1, .int p0), (2, .int p1)]) hx hb dX7_mayBegin_3 rfl hl (by decide) rfl (fun ls hl => ?_)
  refine lv_iconst (v := (1 : Int32)) hx hb dX7_mayBegin_4 (by decide) ?_
  refine lv_istore (lv' := [(4, .int (1 : Int32)), (3, .int x3_19), (0, .ref (q0 0)), (1, .int p0), (2, .int p1)]) hx hb dX7_mayBegin_5 hl (by decide) rfl (fun ls hl => ?_)
  refine lv_iconst (v := (0 : Int32)) hx hb dX7_mayBegin_7 (by decide) ?_
  refine lv_istore (lv' := [(5, .int (0 : Int32)), (4, .int (1 : Int32)), (3, .int x3_19), (0, .ref (q0 0)), (1, .int p0), (2, .int p1)]) hx hb dX7_mayBegin_8 hl (by decide) rfl (fun ls hl => ?_)
  exact k_10 p0 x3_19 (1 : Int32) (0 : Int32) ls hf (lv_sub hl [3, 4, 2, 1, 0] rfl)
def B_X7_began_42 (G19 : (Int32 × Int32 × Int32) → Prop) (s0 : CS) (x1 : Int32) (x3 : Int32) (t0 : Int32) (t1 : Int32) (Q : Int32 → Prop) : Prop := ∀ x2_1 : Int32, x2_1 = (t1 ||| t0) → ∀ x3_2 : Int32, x3_2 = x3 + (1 : Int32) → G19 (x1, x2_1, x3_2)
def LB_X7_began_19 (G19 : (Int32 × Int32 × Int32) → Prop) (s0 : CS) (x1 : Int32) (x2 : Int32) (x3 : Int32) (Q : Int32 → Prop) : Prop := (((20 : Int32) ≤ x3 → Q x2) ∧ (¬ (20 : Int32) ≤ x3 → wp_X7_mayBegin x1 x3 s0 (fun r_4 => ((r_4 = 0 → B_X7_began_42 G19 s0 x1 x3 (0 : Int32) x2 Q) ∧ (¬ r_4 = 0 → B_X7_began_42 G19 s0 x1 x3 ((1 : Int32) <<< (x3 &&& 31)) x2 Q)))))
def B_X7_began_19 (s0 : CS) (x1 : Int32) (x2 : Int32) (x3 : Int32) (Q : Int32 → Prop) : Prop := LOOP (fun (G19 : (Int32 × Int32 × Int32) → Prop) z => LB_X7_began_19 G19 s0 z.1 z.2.1 z.2.2 Q) (x1, x2, x3)
def wp_X7_began (p0 : Int32) (s0 : CS) (Q : Int32 → Prop) : Prop := wp_X7_in (p0.toInt64) (0 : Int64) (3 : Int64) (fun r_6 => ((¬ r_6 = 0 → B_X7_began_19 s0 p0 (0 : Int32) (0 : Int32) Q) ∧ (r_6 = 0 → Q (-2 : Int32))))
set_option maxHeartbeats 4000000 in
set_option maxRecDepth 100000 in
theorem c_X7_began (l : Launch) (D : va_G) (cI cZ cW : ClassId) (q0 : Nat → Nat) (p0 : Int32) (s0 : CS) (Q : Int32 → Prop) (hf : wp_X7_began p0 s0 Q) : Met l yX7_began (wsA yX7_began cX7_began 4 (some .int)) ({ frames := 4, cells := 0, slots := 0, locals := 93 }) (PR D cI cZ cW [.ref (q0 0), .int p0] (wM cI cZ q0 s0)) (vp_Si Q) 0 0 (fun _ => False) := by
  refine Met.ofW (cc := cX7_began) (maxL := 4) (ret := (some .int)) (by decide) rfl ?_
  intro p e s m args below meth c s₁ B hml hv
  obtain ⟨rfl, hP, hK⟩ := hv
  have hx := B.exec
  have hb := B.bytes
  have hr := B.returns
  have hts := atoms_spec (ws := (wsA yX7_began cX7_began 4 (some .int))) B.pre
  have ht : ∀ w ∈ lw_g, w.before _ s = true := fun w h => hts w (List.mem_cons_of_mem _ h)
  have hown : s.vm.findClass RX7 = some m.cls := findClass_of_methodNamed B.named
  have hlocks := B.notSynchronized
  have hl := lv_entry ([.ref (q0 0), .int p0]) (n := 4) (Nat.le_of_ble_eq_true rfl)
  rw [lg_entry_eq]
  generalize (lg_sl ([.ref (q0 0), .int p0]) ++ List.replicate (4 - (lg_sl ([.ref (q0 0), .int p0])).length) Slot.unset).toArray = ls at hl ⊢
  have hl : lv_has ls 4 [(0, .ref (q0 0)), (1, .int p0)] := hl
  unfold wp_X7_began at hf
  have k_19 : ∀ (x1 : Int32) (x2 : Int32) (x3 : Int32) (ls : Array Slot), B_X7_began_19 s0 x1 x2 x3 Q → lv_has ls 4 [(0, .ref (q0 0)), (1, .int x1), (2, .int x2), (3, .int x3)] → W p l e (headSpec (wsA yX7_began cX7_began 4 (some .int)) ({ frames := 4, cells := 0, slots := 0, locals := 93 })).room s m (#[.ref (q0 0), .int p0] : Array Value) below meth c s.heap [] 0 0 (MQ below (vp_Si Q) (#[.ref (q0 0), .int p0] : Array Value) s 0 0 (fun _ => False)) (F0 m 19 ls []) := by
    intro x1 x2 x3 ls hf hl
    unfold B_X7_began_19 at hf
    obtain ⟨I_19, ⟨n0_19, hI0_19⟩, hst_19⟩ := hf
    have main_19 : ∀ (n : Nat) (x1 : Int32) (x2 : Int32) (x3 : Int32) (ls : Array Slot), I_19 n (x1, x2, x3) → lv_has ls 4 [(0, .ref (q0 0)), (1, .int x1), (2, .int x2), (3, .int x3)] → W p l e (headSpec (wsA yX7_began cX7_began 4 (some .int)) ({ frames := 4, cells := 0, slots := 0, locals := 93 })).room s m (#[.ref (q0 0), .int p0] : Array Value) below meth c s.heap [] 0 0 (MQ below (vp_Si Q) (#[.ref (q0 0), .int p0] : Array Value) s 0 0 (fun _ => False)) (F0 m 19 ls []) := by
      intro n
      induction n using Nat.strongRecOn with
      | _ n_19 ih_19 =>
      intro x1 x2 x3 ls hI hl
      have hf : LB_X7_began_19 (fun z => ∃ k, k < n_19 ∧ I_19 k z) s0 x1 x2 x3 Q := hst_19 n_19 (x1, x2, x3) hI
      have hG_19 : ∀ (x1 : Int32) (x2 : Int32) (x3 : Int32) (ls : Array Slot), (∃ k, k < n_19 ∧ I_19 k (x1, x2, x3)) → lv_has ls 4 [(0, .ref (q0 0)), (1, .int x1), (2, .int x2), (3, .int x3)] → W p l e (headSpec (wsA yX7_began cX7_began 4 (some .int)) ({ frames := 4, cells := 0, slots := 0, locals := 93 })).room s m (#[.ref (q0 0), .int p0] : Array Value) below meth c s.heap [] 0 0 (MQ below (vp_Si Q) (#[.ref (q0 0), .int p0] : Array Value) s 0 0 (fun _ => False)) (F0 m 19 ls []) := by
        rintro x1 x2 x3 ls ⟨k, hk, hI⟩ hl
        exact ih_19 k hk x1 x2 x3 ls hI hl
      unfold LB_X7_began_19 at hf
      have k_42 : ∀ (x1 : Int32) (x3 : Int32) (t0 : Int32) (t1 : Int32) (ls : Array Slot), B_X7_began_42 (fun z => ∃ k, k < n_19 ∧ I_19 k z) s0 x1 x3 t0 t1 Q → lv_has ls 4 [(0, .ref (q0 0)), (1, .int x1), (3, .int x3)] → W p l e (headSpec (wsA yX7_began cX7_began 4 (some .int)) ({ frames := 4, cells := 0, slots := 0, locals := 93 })).room s m (#[.ref (q0 0), .int p0] : Array Value) below meth c s.heap [] 0 0 (MQ below (vp_Si Q) (#[.ref (q0 0), .int p0] : Array Value) s 0 0 (fun _ => False)) (F0 m 42 ls [.int t0, .int t1]) := by
        intro x1 x3 t0 t1 ls hf hl
        unfold B_X7_began_42 at hf
        refine lv_ior hx hb dX7_began_42 ?_
        refine lv_topi (fun x2_1 ex2_1 => ?_)
        have hf := hf x2_1 ex2_1
        refine lv_istore_n (lv' := [(2, .int x2_1), (0, .ref (q0 0)), (1, .int x1), (3, .int x3)]) hx hb dX7_began_43 rfl hl (by decide) rfl (fun ls hl => ?_)
        obtain ⟨x3_2, ex3_2⟩ : ∃ y : Int32, y = x3 + (1 : Int32) := ⟨_, rfl⟩
        have hf := hf x3_2 ex3_2
        refine lv_iinc (v := x3_2) (lv' := [(3, .int x3_2), (2, .int x2_1), (0, .ref (q0 0)), (1, .int x1)]) hx hb dX7_began_44 hl (k := 3) rfl (by rw [ex3_2]; rfl) (by decide) rfl (fun ls hl => ?_)
        refine lv_goto (tgt := 19) hx hb dX7_began_47 (by decide) ?_
        exact hG_19 x1 x2_1 x3_2 ls hf (lv_sub hl [2, 3, 1, 0] rfl)
      refine lv_iload_n hx hb dX7_began_19 rfl (lv_at hl 3 rfl) ?_
      refine lv_bipush (v := (20 : Int32)) hx hb dX7_began_20 (by decide) ?_
      refine lv_icmp_ge (tgt := 50) hx hb dX7_began_22 (by decide) (fun c_3 => ?_) (fun c_3 => ?_)
      · have hf := hf.1 c_3
        refine lv_iload_n hx hb dX7_began_50 rfl (lv_at hl 2 rfl) ?_
        exact W.iret (v := x2) hx hb hr (fun t ht hW => ⟨x2, rfl, hf, ht⟩) (fun q h => absurd h List.not_mem_nil) dX7_began_51
      · have hf := hf.2 c_3
        refine lv_iload_n hx hb dX7_began_25 rfl (lv_at hl 2 rfl) ?_
        refine lv_aload_n hx hb dX7_began_26 rfl (lv_at hl 0 rfl) ?_
        refine lv_iload_n hx hb dX7_began_27 rfl (lv_at hl 1 rfl) ?_
        refine lv_iload_n hx hb dX7_began_28 rfl (lv_at hl 3 rfl) ?_
        have hPc : va_P D classes (wM cI cZ q0 s0) s.heap := hP
        refine vp_callSi (W.runV (As := [.int x1, .int x3]) (rest := [.int x2]) ⟨hx, hb, hml, hown, hts⟩ (c_X7_mayBegin l D cI cZ cW q0 x1 x3 s0 _ hf) ⟨callB_of 2 hts (gA tw_970) rfl rfl rfl (ht _ tw_7) (ht _ tw_967) hd_X7_mayBegin ⟨Nat.le_of_ble_eq_true rfl, Nat.le_of_ble_eq_true rfl⟩, ht _ tw_969, ht _ twp_46⟩ ⟨PR_blind, va_recv hK hP (ci := 5) (q0 := 0) rfl eM_0, fun U hU hW => PR_mk hPc hK hU hW⟩ rfl rfl hl.1 rfl (lv_room (Nat.le_of_ble_eq_true rfl)) dX7_began_29 ⟨Nat.zero_le _, Nat.zero_le _⟩) (fun r_4 hf => ?_)
        refine lv_if_eq (tgt := 41) hx hb dX7_began_32 (by decide) (fun c_5 => ?_) (fun c_5 => ?_)
        · have hf := hf.1 c_5
          refine lv_iconst (v := (0 : Int32)) hx hb dX7_began_41 (by decide) ?_
          exact k_42 x1 x3 (0 : Int32) x2 ls hf (lv_sub hl [0, 1, 3] rfl)
        · have hf := hf.2 c_5
          refine lv_iconst (v := (1 : Int32)) hx hb dX7_began_35 (by decide) ?_
          refine lv_iload_n hx hb dX7_began_36 rfl (lv_at hl 3 rfl) ?_
          refine lv_ishl hx hb dX7_began_37 ?_
          refine lv_goto (tgt := 42) hx hb dX7_began_38 (by decide) ?_
          exact k_42 x1 x3 ((1 : Int32) <<< (x3 &&& 31)) x2 ls hf (lv_sub hl [0, 1, 3] rfl)
    exact main_19 n0_19 x1 x2 x3 ls hI0_19 hl
  refine lv_iload_n hx hb dX7_began_0 rfl (lv_at hl 1 rfl) ?_
  refine lv_i2l (v := p0.toInt64) hx hb dX7_began_1 rfl ?_
  refine lv_lconst (v := (0 : Int64)) hx hb dX7_began_2 (by decide) ?_
  refine lv_ldc2 (v := (3 : Int64)) hx hb hown (ht _ tw_945) dX7_began_3 ?_
  have hPc : va_P D classes ([] : va_W) s.heap := hP.sub [] rfl
  refine vp_callSi (W.runS (As := [.long p0.toInt64, .long (0 : Int64), .long (3 : Int64)]) (rest := []) ⟨hx, hb, hml, hown, hts⟩ (c_X7_in l D cI cZ cW  (p0.toInt64) (0 : Int64) (3 : Int64) _ hf) ⟨callB_of 3 hts (gA tw_747) rfl rfl rfl (ht _ tw_7) (ht _ tw_745) hd_X7_in ⟨Nat.le_of_ble_eq_true rfl, Nat.le_of_ble_eq_true rfl⟩, ht _ tw_746⟩ ⟨PR_blind, fun U hU hW => PR_mk hPc hK hU hW⟩ rfl rfl hl.1 rfl (lv_room (Nat.le_of_ble_eq_true rfl)) dX7_began_6 ⟨Nat.zero_le _, Nat.zero_le _⟩) (fun r_6 hf => ?_)
  refine lv_if_ne (tgt := 15) hx hb dX7_began_9 (by decide) (fun c_7 => ?_) (fun c_7 => ?_)
  · have hf := hf.1 c_7
    refine lv_iconst (v := (0 : Int32)) hx hb dX7_began_15 (by decide) ?_
    refine lv_istore_n (lv' := [(2, .int (0 : Int32)), (0, .ref (q0 0)), (1, .int p0)]) hx hb dX7_began_16 rfl hl (by decide) rfl (fun ls hl => ?_)
    refine lv_iconst (v := (0 : Int32)) hx hb dX7_began_17 (by decide) ?_
    refine lv_istore_n (lv' := [(3, .int (0 : Int32)), (2, .int (0 : Int32)), (0, .ref (q0 0)), (1, .int p0)]) hx hb dX7_began_18 rfl hl (by decide) rfl (fun ls hl => ?_)
    exact k_19 p0 (0 : Int32) (0 : Int32) ls hf (lv_sub hl [2, 3, 1, 0] rfl)
  · have hf := hf.2 c_7
    refine lv_bipush (v := (-2 : Int32)) hx hb dX7_began_12 (by decide) ?_
    exact W.iret (v := (-2 : Int32)) hx hb hr (fun t ht hW => ⟨(-2 : Int32), rfl, hf, ht⟩) (fun q h => absurd h List.not_mem_nil) dX7_began_14
def LB_X7_factorial_4 (G4 : (Int32 × Int32 × Int32) → Prop)  (x0 : Int32) (x1 : Int32) (x2 : Int32) (Q : Int32 → Prop) : Prop := ((x0 < x2 → Q x1) ∧ (¬ x0 < x2 → ∀ x1_2 : Int32, x1_2 = (x1 * x2) → ∀ x2_3 : Int32, x2_3 = x2 + (1 : Int32) → G4 (x0, x1_2, x2_3)))
def B_X7_factorial_4  (x0 : Int32) (x1 : Int32) (x2 : Int32) (Q : Int32 → Prop) : Prop := LOOP (fun (G4 : (Int32 × Int32 × Int32) → Prop) z => LB_X7_factorial_4 G4  z.1 z.2.1 z.2.2 Q) (x0, x1, x2)
def wp_X7_factorial (p0 : Int32) (Q : Int32 → Prop) : Prop := B_X7_factorial_4  p0 (1 : Int32) (2 : Int32) Q
set_option maxHeartbeats 4000000 in
set_option maxRecDepth 100000 in
theorem c_X7_factorial (l : Launch) (D : va_G) (cI cZ cW : ClassId)  (p0 : Int32) (Q : Int32 → Prop) (hf : wp_X7_factorial p0 Q) : Met l yX7_factorial (wsA yX7_factorial cX7_factorial 3 (some .int)) ({ frames := 0, cells := 0, slots := 0, locals := 0 }) (PR D cI cZ cW [.int p0] ([] : va_W)) (vp_Si Q) 0 0 (fun _ => False) := by
  refine Met.ofW (cc := cX7_factorial) (maxL := 3) (ret := (some .int)) (by decide) rfl ?_
  intro p e s m args below meth c s₁ B hml hv
  obtain ⟨rfl, hP, hK⟩ := hv
  have hx := B.exec
  have hb := B.bytes
  have hr := B.returns
  have hts := atoms_spec (ws := (wsA yX7_factorial cX7_factorial 3 (some .int))) B.pre
  have ht : ∀ w ∈ lw_g, w.before _ s = true := fun w h => hts w (List.mem_cons_of_mem _ h)
  have hown : s.vm.findClass RX7 = some m.cls := findClass_of_methodNamed B.named
  have hlocks := B.notSynchronized
  have hl := lv_entry ([.int p0]) (n := 3) (Nat.le_of_ble_eq_true rfl)
  rw [lg_entry_eq]
  generalize (lg_sl ([.int p0]) ++ List.replicate (3 - (lg_sl ([.int p0])).length) Slot.unset).toArray = ls at hl ⊢
  have hl : lv_has ls 3 [(0, .int p0)] := hl
  unfold wp_X7_factorial at hf
  have k_4 : ∀ (x0 : Int32) (x1 : Int32) (x2 : Int32) (ls : Array Slot), B_X7_factorial_4  x0 x1 x2 Q → lv_has ls 3 [(0, .int x0), (1, .int x1), (2, .int x2)] → W p l e (headSpec (wsA yX7_factorial cX7_factorial 3 (some .int)) ({ frames := 0, cells := 0, slots := 0, locals := 0 })).room s m (#[.int p0] : Array Value) below meth c s.heap [] 0 0 (MQ below (vp_Si Q) (#[.int p0] : Array Value) s 0 0 (fun _ => False)) (F0 m 4 ls []) := by
    intro x0 x1 x2 ls hf hl
    unfold B_X7_factorial_4 at hf
    obtain ⟨I_4, ⟨n0_4, hI0_4⟩, hst_4⟩ := hf
    have main_4 : ∀ (n : Nat) (x0 : Int32) (x1 : Int32) (x2 : Int32) (ls : Array Slot), I_4 n (x0, x1, x2) → lv_has ls 3 [(0, .int x0), (1, .int x1), (2, .int x2)] → W p l e (headSpec (wsA yX7_factorial cX7_factorial 3 (some .int)) ({ frames := 0, cells := 0, slots := 0, locals := 0 })).room s m (#[.int p0] : Array Value) below meth c s.heap [] 0 0 (MQ below (vp_Si Q) (#[.int p0] : Array Value) s 0 0 (fun _ => False)) (F0 m 4 ls []) := by
      intro n
      induction n using Nat.strongRecOn with
      | _ n_4 ih_4 =>
      intro x0 x1 x2 ls hI hl
      have hf : LB_X7_factorial_4 (fun z => ∃ k, k < n_4 ∧ I_4 k z)  x0 x1 x2 Q := hst_4 n_4 (x0, x1, x2) hI
      have hG_4 : ∀ (x0 : Int32) (x1 : Int32) (x2 : Int32) (ls : Array Slot), (∃ k, k < n_4 ∧ I_4 k (x0, x1, x2)) → lv_has ls 3 [(0, .int x0), (1, .int x1), (2, .int x2)] → W p l e (headSpec (wsA yX7_factorial cX7_factorial 3 (some .int)) ({ frames := 0, cells := 0, slots := 0, locals := 0 })).room s m (#[.int p0] : Array Value) below meth c s.heap [] 0 0 (MQ below (vp_Si Q) (#[.int p0] : Array Value) s 0 0 (fun _ => False)) (F0 m 4 ls []) := by
        rintro x0 x1 x2 ls ⟨k, hk, hI⟩ hl
        exact ih_4 k hk x0 x1 x2 ls hI hl
      unfold LB_X7_factorial_4 at hf
      refine lv_iload_n hx hb dX7_factorial_4 rfl (lv_at hl 2 rfl) ?_
      refine lv_iload_n hx hb dX7_factorial_5 rfl (lv_at hl 0 rfl) ?_
      refine lv_icmp_gt (tgt := 19) hx hb dX7_factorial_6 (by decide) (fun c_1 => ?_) (fun c_1 => ?_)
      · have hf := hf.1 c_1
        refine lv_iload_n hx hb dX7_factorial_19 rfl (lv_at hl 1 rfl) ?_
        exact W.iret (v := x1) hx hb hr (fun t ht hW => ⟨x1, rfl, hf, ht⟩) (fun q h => absurd h List.not_mem_nil) dX7_factorial_20
      · have hf := hf.2 c_1
        refine lv_iload_n hx hb dX7_factorial_9 rfl (lv_at hl 1 rfl) ?_
        refine lv_iload_n hx hb dX7_factorial_10 rfl (lv_at hl 2 rfl) ?_
        refine lv_imul hx hb dX7_factorial_11 ?_
        refine lv_topi (fun x1_2 ex1_2 => ?_)
        have hf := hf x1_2 ex1_2
        refine lv_istore_n (lv' := [(1, .int x1_2), (0, .int x0), (2, .int x2)]) hx hb dX7_factorial_12 rfl hl (by decide) rfl (fun ls hl => ?_)
        obtain ⟨x2_3, ex2_3⟩ : ∃ y : Int32, y = x2 + (1 : Int32) := ⟨_, rfl⟩
        have hf := hf x2_3 ex2_3
        refine lv_iinc (v := x2_3) (lv' := [(2, .int x2_3), (1, .int x1_2), (0, .int x0)]) hx hb dX7_factorial_13 hl (k := 2) rfl (by rw [ex2_3]; rfl) (by decide) rfl (fun ls hl => ?_)
        refine lv_goto (tgt := 4) hx hb dX7_factorial_16 (by decide) ?_
        exact hG_4 x0 x1_2 x2_3 ls hf (lv_sub hl [2, 1, 0] rfl)
    exact main_4 n0_4 x0 x1 x2 ls hI0_4 hl
  refine lv_iconst (v := (1 : Int32)) hx hb dX7_factorial_0 (by decide) ?_
  refine lv_istore_n (lv' := [(1, .int (1 : Int32)), (0, .int p0)]) hx hb dX7_factorial_1 rfl hl (by decide) rfl (fun ls hl => ?_)
  refine lv_iconst (v := (2 : Int32)) hx hb dX7_factorial_2 (by decide) ?_
  refine lv_istore_n (lv' := [(2, .int (2 : Int32)), (1, .int (1 : Int32)), (0, .int p0)]) hx hb dX7_factorial_3 rfl hl (by decide) rfl (fun ls hl => ?_)
  exact k_4 p0 (1 : Int32) (2 : Int32) ls hf (lv_sub hl [2, 1, 0] rfl)
def LB_X7_common_13 (G13 : (Int32 × Int32) → Prop)  (x2 : Int32) (x3 : Int32) (Q : Int32 → Prop) : Prop := ((x3 = 0 → Q x2) ∧ (¬ x3 = 0 → ¬ x3 = 0 ∧ ∀ x4_3 : Int32, x4_3 = (x2 - x2 / x3 * x3) → G13 (x3, x4_3)))
def B_X7_common_13  (x2 : Int32) (x3 : Int32) (Q : Int32 → Prop) : Prop := LOOP (fun (G13 : (Int32 × Int32) → Prop) z => LB_X7_common_13 G13  z.1 z.2 Q) (x2, x3)
def B_X7_common_10  (x1 : Int32) (t0 : Int32) (Q : Int32 → Prop) : Prop := B_X7_common_13  t0 x1 Q
def wp_X7_common (p0 : Int32) (p1 : Int32) (Q : Int32 → Prop) : Prop := ((0 ≤ p0 → B_X7_common_10  p1 p0 Q) ∧ (¬ 0 ≤ p0 → B_X7_common_10  p1 (-p0) Q))
set_option maxHeartbeats 4000000 in
set_option maxRecDepth 100000 in
theorem c_X7_common (l : Launch) (D : va_G) (cI cZ cW : ClassId)  (p0 : Int32) (p1 : Int32) (Q : Int32 → Prop) (hf : wp_X7_common p0 p1 Q) : Met l yX7_common (wsA yX7_common cX7_common 5 (some .int)) ({ frames := 0, cells := 0, slots := 0, locals := 0 }) (PR D cI cZ cW [.int p0, .int p1] ([] : va_W)) (vp_Si Q) 0 0 (fun _ => False) := by
  refine Met.ofW (cc := cX7_common) (maxL := 5) (ret := (some .int)) (by decide) rfl ?_
  intro p e s m args below meth c s₁ B hml hv
  obtain ⟨rfl, hP, hK⟩ := hv
  have hx := B.exec
  have hb := B.bytes
  have hr := B.returns
  have hts := atoms_spec (ws := (wsA yX7_common cX7_common 5 (some .int))) B.pre
  have ht : ∀ w ∈ lw_g, w.before _ s = true := fun w h => hts w (List.mem_cons_of_mem _ h)
  have hown : s.vm.findClass RX7 = some m.cls := findClass_of_methodNamed B.named
  have hlocks := B.notSynchronized
  have hl := lv_entry ([.int p0, .int p1]) (n := 5) (Nat.le_of_ble_eq_true rfl)
  rw [lg_entry_eq]
  generalize (lg_sl ([.int p0, .int p1]) ++ List.replicate (5 - (lg_sl ([.int p0, .int p1])).length) Slot.unset).toArray = ls at hl ⊢
  have hl : lv_has ls 5 [(0, .int p0), (1, .int p1)] := hl
  unfold wp_X7_common at hf
  have k_13 : ∀ (x2 : Int32) (x3 : Int32) (ls : Array Slot), B_X7_common_13  x2 x3 Q → lv_has ls 5 [(2, .int x2), (3, .int x3)] → W p l e (headSpec (wsA yX7_common cX7_common 5 (some .int)) ({ frames := 0, cells := 0, slots := 0, locals := 0 })).room s m (#[.int p0, .int p1] : Array Value) below meth c s.heap [] 0 0 (MQ below (vp_Si Q) (#[.int p0, .int p1] : Array Value) s 0 0 (fun _ => False)) (F0 m 13 ls []) := by
    intro x2 x3 ls hf hl
    unfold B_X7_common_13 at hf
    obtain ⟨I_13, ⟨n0_13, hI0_13⟩, hst_13⟩ := hf
    have main_13 : ∀ (n : Nat) (x2 : Int32) (x3 : Int32) (ls : Array Slot), I_13 n (x2, x3) → lv_has ls 5 [(2, .int x2), (3, .int x3)] → W p l e (headSpec (wsA yX7_common cX7_common 5 (some .int)) ({ frames := 0, cells := 0, slots := 0, locals := 0 })).room s m (#[.int p0, .int p1] : Array Value) below meth c s.heap [] 0 0 (MQ below (vp_Si Q) (#[.int p0, .int p1] : Array Value) s 0 0 (fun _ => False)) (F0 m 13 ls []) := by
      intro n
      induction n using Nat.strongRecOn with
      | _ n_13 ih_13 =>
      intro x2 x3 ls hI hl
      have hf : LB_X7_common_13 (fun z => ∃ k, k < n_13 ∧ I_13 k z)  x2 x3 Q := hst_13 n_13 (x2, x3) hI
      have hG_13 : ∀ (x2 : Int32) (x3 : Int32) (ls : Array Slot), (∃ k, k < n_13 ∧ I_13 k (x2, x3)) → lv_has ls 5 [(2, .int x2), (3, .int x3)] → W p l e (headSpec (wsA yX7_common cX7_common 5 (some .int)) ({ frames := 0, cells := 0, slots := 0, locals := 0 })).room s m (#[.int p0, .int p1] : Array Value) below meth c s.heap [] 0 0 (MQ below (vp_Si Q) (#[.int p0, .int p1] : Array Value) s 0 0 (fun _ => False)) (F0 m 13 ls []) := by
        rintro x2 x3 ls ⟨k, hk, hI⟩ hl
        exact ih_13 k hk x2 x3 ls hI hl
      unfold LB_X7_common_13 at hf
      refine lv_iload_n hx hb dX7_common_13 rfl (lv_at hl 1 rfl) ?_
      refine lv_if_eq (tgt := 30) hx hb dX7_common_14 (by decide) (fun c_1 => ?_) (fun c_1 => ?_)
      · have hf := hf.1 c_1
        refine lv_iload_n hx hb dX7_common_30 rfl (lv_at hl 0 rfl) ?_
        exact W.iret (v := x2) hx hb hr (fun t ht hW => ⟨x2, rfl, hf, ht⟩) (fun q h => absurd h List.not_mem_nil) dX7_common_31
      · have hf := hf.2 c_1
        refine lv_iload_n hx hb dX7_common_17 rfl (lv_at hl 0 rfl) ?_
        refine lv_iload_n hx hb dX7_common_18 rfl (lv_at hl 1 rfl) ?_
        obtain ⟨hz_2, hf⟩ := hf
        refine lv_irem hx hb dX7_common_19 hz_2 ?_
        refine lv_topi (fun x4_3 ex4_3 => ?_)
        have hf := hf x4_3 ex4_3
        refine lv_istore (lv' := [(4, .int x4_3), (2, .int x2), (3, .int x3)]) hx hb dX7_common_20 hl (by decide) rfl (fun ls hl => ?_)
        refine lv_iload_n hx hb dX7_common_22 rfl (lv_at hl 2 rfl) ?_
        refine lv_istore_n (lv' := [(2, .int x3), (4, .int x4_3), (3, .int x3)]) hx hb dX7_common_23 rfl hl (by decide) rfl (fun ls hl => ?_)
        refine lv_iload hx hb dX7_common_24 (lv_at hl 1 rfl) ?_
        refine lv_istore_n (lv' := [(3, .int x4_3), (2, .int x3), (4, .int x4_3)]) hx hb dX7_common_26 rfl hl (by decide) rfl (fun ls hl => ?_)
        refine lv_goto (tgt := 13) hx hb dX7_common_27 (by decide) ?_
        exact hG_13 x3 x4_3 ls hf (lv_sub hl [1, 0] rfl)
    exact main_13 n0_13 x2 x3 ls hI0_13 hl
  have k_10 : ∀ (x1 : Int32) (t0 : Int32) (ls : Array Slot), B_X7_common_10  x1 t0 Q → lv_has ls 5 [(1, .int x1)] → W p l e (headSpec (wsA yX7_common cX7_common 5 (some .int)) ({ frames := 0, cells := 0, slots := 0, locals := 0 })).room s m (#[.int p0, .int p1] : Array Value) below meth c s.heap [] 0 0 (MQ below (vp_Si Q) (#[.int p0, .int p1] : Array Value) s 0 0 (fun _ => False)) (F0 m 10 ls [.int t0]) := by
    intro x1 t0 ls hf hl
    unfold B_X7_common_10 at hf
    refine lv_istore_n (lv' := [(2, .int t0), (1, .int x1)]) hx hb dX7_common_10 rfl hl (by decide) rfl (fun ls hl => ?_)
    refine lv_iload_n hx hb dX7_common_11 rfl (lv_at hl 1 rfl) ?_
    refine lv_istore_n (lv' := [(3, .int x1), (2, .int t0), (1, .int x1)]) hx hb dX7_common_12 rfl hl (by decide) rfl (fun ls hl => ?_)
    exact k_13 t0 x1 ls hf (lv_sub hl [1, 0] rfl)
  refine lv_iload_n hx hb dX7_common_0 rfl (lv_at hl 0 rfl) ?_
  refine lv_if_ge (tgt := 9) hx hb dX7_common_1 (by decide) (fun c_4 => ?_) (fun c_4 => ?_)
  · have hf := hf.1 c_4
    refine lv_iload_n hx hb dX7_common_9 rfl (lv_at hl 0 rfl) ?_
    exact k_10 p1 p0 ls hf (lv_sub hl [1] rfl)
  · have hf := hf.2 c_4
    refine lv_iload_n hx hb dX7_common_4 rfl (lv_at hl 0 rfl) ?_
    refine lv_ineg hx hb dX7_common_5 ?_
    refine lv_goto (tgt := 10) hx hb dX7_common_6 (by decide) ?_
    exact k_10 p1 (-p0) ls hf (lv_sub hl [1] rfl)
def B_X7_largest_76 (G8 : (Int32 × Int32) → Prop) (s0 : CS) (x2 : Int32) (x4 : Int32) (t0 : Int32) (Q : Int32 → Prop) : Prop := ∀ x2_1 : Int32, x2_1 = (x2 &&& (x4 ^^^ (-1 : Int32))) → G8 (x2_1, t0)
def LB_X7_largest_32 (G32 : (Int32 × Int32 × Int32 × Int32) → Prop) (G8 : (Int32 × Int32) → Prop) (s0 : CS) (x2 : Int32) (x3 : Int32) (x4 : Int32) (x5 : Int32) (Q : Int32 → Prop) : Prop := ((x5 = x4 → wp_X7_ones x4 (fun r_3 => ((r_3 ≤ x3 → B_X7_largest_76 G8 s0 x2 x4 x3 Q) ∧ (¬ r_3 ≤ x3 → wp_X7_ones x4 (fun r_5 => B_X7_largest_76 G8 s0 x2 x4 r_5 Q))))) ∧ (¬ x5 = x4 → wp_X7_beside x5 (fun r_6 => ∀ x5_7 : Int32, x5_7 = (x5 ||| (r_6 &&& x2)) → G32 (x2, x3, x5, x5_7))))
def B_X7_largest_32 (G8 : (Int32 × Int32) → Prop) (s0 : CS) (x2 : Int32) (x3 : Int32) (x4 : Int32) (x5 : Int32) (Q : Int32 → Prop) : Prop := LOOP (fun (G32 : (Int32 × Int32 × Int32 × Int32) → Prop) z => LB_X7_largest_32 G32 G8 s0 z.1 z.2.1 z.2.2.1 z.2.2.2 Q) (x2, x3, x4, x5)
def LB_X7_largest_8 (G8 : (Int32 × Int32) → Prop) (s0 : CS) (x2 : Int32) (x3 : Int32) (Q : Int32 → Prop) : Prop := ((x2 = 0 → Q x3) ∧ (¬ x2 = 0 → wp_X7_least x2 (fun r_9 => ∀ x4_10 : Int32, x4_10 = ((1 : Int32) <<< (r_9 &&& 31)) → wp_X7_beside x4_10 (fun r_11 => ∀ x5_12 : Int32, x5_12 = (x4_10 ||| (r_11 &&& x2)) → B_X7_largest_32 G8 s0 x2 x3 x4_10 x5_12 Q))))
def B_X7_largest_8 (s0 : CS) (x2 : Int32) (x3 : Int32) (Q : Int32 → Prop) : Prop := LOOP (fun (G8 : (Int32 × Int32) → Prop) z => LB_X7_largest_8 G8 s0 z.1 z.2 Q) (x2, x3)
def wp_X7_largest (p0 : Int32) (s0 : CS) (Q : Int32 → Prop) : Prop := wp_X7_estate p0 s0 (fun r_13 => B_X7_largest_8 s0 r_13 (0 : Int32) Q)
set_option maxHeartbeats 4000000 in
set_option maxRecDepth 100000 in
theorem c_X7_largest (l : Launch) (D : va_G) (cI cZ cW : ClassId) (q0 : Nat → Nat) (p0 : Int32) (s0 : CS) (Q : Int32 → Prop) (hf : wp_X7_largest p0 s0 Q) : Met l yX7_largest (wsA yX7_largest cX7_largest 6 (some .int)) ({ frames := 2, cells := 0, slots := 0, locals := 47 }) (PR D cI cZ cW [.ref (q0 0), .int p0] (wM cI cZ q0 s0)) (vp_Si Q) 0 0 (fun _ => False) := by
  refine Met.ofW (cc := cX7_largest) (maxL := 6) (ret := (some .int)) (by decide) rfl ?_
  intro p e s m args below meth c s₁ B hml hv
  obtain ⟨rfl, hP, hK⟩ := hv
  have hx := B.exec
  have hb := B.bytes
  have hr := B.returns
  have hts := atoms_spec (ws := (wsA yX7_largest cX7_largest 6 (some .int))) B.pre
  have ht : ∀ w ∈ lw_g, w.before _ s = true := fun w h => hts w (List.mem_cons_of_mem _ h)
  have hown : s.vm.findClass RX7 = some m.cls := findClass_of_methodNamed B.named
  have hlocks := B.notSynchronized
  have hl := lv_entry ([.ref (q0 0), .int p0]) (n := 6) (Nat.le_of_ble_eq_true rfl)
  rw [lg_entry_eq]
  generalize (lg_sl ([.ref (q0 0), .int p0]) ++ List.replicate (6 - (lg_sl ([.ref (q0 0), .int p0])).length) Slot.unset).toArray = ls at hl ⊢
  have hl : lv_has ls 6 [(0, .ref (q0 0)), (1, .int p0)] := hl
  unfold wp_X7_largest at hf
  have k_8 : ∀ (x2 : Int32) (x3 : Int32) (ls : Array Slot), B_X7_largest_8 s0 x2 x3 Q → lv_has ls 6 [(2, .int x2), (3, .int x3)] → W p l e (headSpec (wsA yX7_largest cX7_largest 6 (some .int)) ({ frames := 2, cells := 0, slots := 0, locals := 47 })).room s m (#[.ref (q0 0), .int p0] : Array Value) below meth c s.heap [] 0 0 (MQ below (vp_Si Q) (#[.ref (q0 0), .int p0] : Array Value) s 0 0 (fun _ => False)) (F0 m 8 ls []) := by
    intro x2 x3 ls hf hl
    unfold B_X7_largest_8 at hf
    obtain ⟨I_8, ⟨n0_8, hI0_8⟩, hst_8⟩ := hf
    have main_8 : ∀ (n : Nat) (x2 : Int32) (x3 : Int32) (ls : Array Slot), I_8 n (x2, x3) → lv_has ls 6 [(2, .int x2), (3, .int x3)] → W p l e (headSpec (wsA yX7_largest cX7_largest 6 (some .int)) ({ frames := 2, cells := 0, slots := 0, locals := 47 })).room s m (#[.ref (q0 0), .int p0] : Array Value) below meth c s.heap [] 0 0 (MQ below (vp_Si Q) (#[.ref (q0 0), .int p0] : Array Value) s 0 0 (fun _ => False)) (F0 m 8 ls []) := by
      intro n
      induction n using Nat.strongRecOn with
      | _ n_8 ih_8 =>
      intro x2 x3 ls hI hl
      have hf : LB_X7_largest_8 (fun z => ∃ k, k < n_8 ∧ I_8 k z) s0 x2 x3 Q := hst_8 n_8 (x2, x3) hI
      have hG_8 : ∀ (x2 : Int32) (x3 : Int32) (ls : Array Slot), (∃ k, k < n_8 ∧ I_8 k (x2, x3)) → lv_has ls 6 [(2, .int x2), (3, .int x3)] → W p l e (headSpec (wsA yX7_largest cX7_largest 6 (some .int)) ({ frames := 2, cells := 0, slots := 0, locals := 47 })).room s m (#[.ref (q0 0), .int p0] : Array Value) below meth c s.heap [] 0 0 (MQ below (vp_Si Q) (#[.ref (q0 0), .int p0] : Array Value) s 0 0 (fun _ => False)) (F0 m 8 ls []) := by
        rintro x2 x3 ls ⟨k, hk, hI⟩ hl
        exact ih_8 k hk x2 x3 ls hI hl
      unfold LB_X7_largest_8 at hf
      have k_76 : ∀ (x2 : Int32) (x4 : Int32) (t0 : Int32) (ls : Array Slot), B_X7_largest_76 (fun z => ∃ k, k < n_8 ∧ I_8 k z) s0 x2 x4 t0 Q → lv_has ls 6 [(2, .int x2), (4, .int x4)] → W p l e (headSpec (wsA yX7_largest cX7_largest 6 (some .int)) ({ frames := 2, cells := 0, slots := 0, locals := 47 })).room s m (#[.ref (q0 0), .int p0] : Array Value) below meth c s.heap [] 0 0 (MQ below (vp_Si Q) (#[.ref (q0 0), .int p0] : Array Value) s 0 0 (fun _ => False)) (F0 m 76 ls [.int t0]) := by
        intro x2 x4 t0 ls hf hl
        unfold B_X7_largest_76 at hf
        refine lv_istore_n (lv' := [(3, .int t0), (2, .int x2), (4, .int x4)]) hx hb dX7_largest_76 rfl hl (by decide) rfl (fun ls hl => ?_)
        refine lv_iload_n hx hb dX7_largest_77 rfl (lv_at hl 1 rfl) ?_
        refine lv_iload hx hb dX7_largest_78 (lv_at hl 2 rfl) ?_
        refine lv_iconst (v := (-1 : Int32)) hx hb dX7_largest_80 (by decide) ?_
        refine lv_ixor hx hb dX7_largest_81 ?_
        refine lv_iand hx hb dX7_largest_82 ?_
        refine lv_topi (fun x2_1 ex2_1 => ?_)
        have hf := hf x2_1 ex2_1
        refine lv_istore_n (lv' := [(2, .int x2_1), (3, .int t0), (4, .int x4)]) hx hb dX7_largest_83 rfl hl (by decide) rfl (fun ls hl => ?_)
        refine lv_goto (tgt := 8) hx hb dX7_largest_84 (by decide) ?_
        exact hG_8 x2_1 t0 ls hf (lv_sub hl [0, 1] rfl)
      have k_32 : ∀ (x2 : Int32) (x3 : Int32) (x4 : Int32) (x5 : Int32) (ls : Array Slot), B_X7_largest_32 (fun z => ∃ k, k < n_8 ∧ I_8 k z) s0 x2 x3 x4 x5 Q → lv_has ls 6 [(2, .int x2), (3, .int x3), (4, .int x4), (5, .int x5)] → W p l e (headSpec (wsA yX7_largest cX7_largest 6 (some .int)) ({ frames := 2, cells := 0, slots := 0, locals := 47 })).room s m (#[.ref (q0 0), .int p0] : Array Value) below meth c s.heap [] 0 0 (MQ below (vp_Si Q) (#[.ref (q0 0), .int p0] : Array Value) s 0 0 (fun _ => False)) (F0 m 32 ls []) := by
        intro x2 x3 x4 x5 ls hf hl
        unfold B_X7_largest_32 at hf
        obtain ⟨I_32, ⟨n0_32, hI0_32⟩, hst_32⟩ := hf
        have main_32 : ∀ (n : Nat) (x2 : Int32) (x3 : Int32) (x4 : Int32) (x5 : Int32) (ls : Array Slot), I_32 n (x2, x3, x4, x5) → lv_has ls 6 [(2, .int x2), (3, .int x3), (4, .int x4), (5, .int x5)] → W p l e (headSpec (wsA yX7_largest cX7_largest 6 (some .int)) ({ frames := 2, cells := 0, slots := 0, locals := 47 })).room s m (#[.ref (q0 0), .int p0] : Array Value) below meth c s.heap [] 0 0 (MQ below (vp_Si Q) (#[.ref (q0 0), .int p0] : Array Value) s 0 0 (fun _ => False)) (F0 m 32 ls []) := by
          intro n
          induction n using Nat.strongRecOn with
          | _ n_32 ih_32 =>
          intro x2 x3 x4 x5 ls hI hl
          have hf : LB_X7_largest_32 (fun z => ∃ k, k < n_32 ∧ I_32 k z) (fun z => ∃ k, k < n_8 ∧ I_8 k z) s0 x2 x3 x4 x5 Q := hst_32 n_32 (x2, x3, x4, x5) hI
          have hG_32 : ∀ (x2 : Int32) (x3 : Int32) (x4 : Int32) (x5 : Int32) (ls : Array Slot), (∃ k, k < n_32 ∧ I_32 k (x2, x3, x4, x5)) → lv_has ls 6 [(2, .int x2), (3, .int x3), (4, .int x4), (5, .int x5)] → W p l e (headSpec (wsA yX7_largest cX7_largest 6 (some .int)) ({ frames := 2, cells := 0, slots := 0, locals := 47 })).room s m (#[.ref (q0 0), .int p0] : Array Value) below meth c s.heap [] 0 0 (MQ below (vp_Si Q) (#[.ref (q0 0), .int p0] : Array Value) s 0 0 (fun _ => False)) (F0 m 32 ls []) := by
            rintro x2 x3 x4 x5 ls ⟨k, hk, hI⟩ hl
            exact ih_32 k hk x2 x3 x4 x5 ls hI hl
          unfold LB_X7_largest_32 at hf
          refine lv_iload hx hb dX7_largest_32 (lv_at hl 3 rfl) ?_
          refine lv_iload hx hb dX7_largest_34 (lv_at hl 2 rfl) ?_
          refine lv_icmp_eq (tgt := 58) hx hb dX7_largest_36 (by decide) (fun c_2 => ?_) (fun c_2 => ?_)
          · have hf := hf.1 c_2
            refine lv_iload hx hb dX7_largest_58 (lv_at hl 2 rfl) ?_
            have hPc : va_P D classes ([] : va_W) s.heap := hP.sub [] rfl
            refine vp_callSi (W.runS (As := [.int x4]) (rest := []) ⟨hx, hb, hml, hown, hts⟩ (c_X7_ones l D cI cZ cW  x4 _ hf) ⟨callB_of 1 hts (gA tw_795) rfl rfl rfl (ht _ tw_7) (ht _ tw_793) hd_X7_ones ⟨Nat.le_of_ble_eq_true rfl, Nat.le_of_ble_eq_true rfl⟩, ht _ tw_794⟩ ⟨PR_blind, fun U hU hW => PR_mk hPc hK hU hW⟩ rfl rfl hl.1 rfl (lv_room (Nat.le_of_ble_eq_true rfl)) dX7_largest_60 ⟨Nat.zero_le _, Nat.zero_le _⟩) (fun r_3 hf => ?_)
            refine lv_iload_n hx hb dX7_largest_63 rfl (lv_at hl 1 rfl) ?_
            refine lv_icmp_le (tgt := 75) hx hb dX7_largest_64 (by decide) (fun c_4 => ?_) (fun c_4 => ?_)
            · have hf := hf.1 c_4
              refine lv_iload_n hx hb dX7_largest_75 rfl (lv_at hl 1 rfl) ?_
              exact k_76 x2 x4 x3 ls hf (lv_sub hl [0, 2] rfl)
            · have hf := hf.2 c_4
              refine lv_iload hx hb dX7_largest_67 (lv_at hl 2 rfl) ?_
              have hPc : va_P D classes ([] : va_W) s.heap := hP.sub [] rfl
              refine vp_callSi (W.runS (As := [.int x4]) (rest := []) ⟨hx, hb, hml, hown, hts⟩ (c_X7_ones l D cI cZ cW  x4 _ hf) ⟨callB_of 1 hts (gA tw_795) rfl rfl rfl (ht _ tw_7) (ht _ tw_793) hd_X7_ones ⟨Nat.le_of_ble_eq_true rfl, Nat.le_of_ble_eq_true rfl⟩, ht _ tw_794⟩ ⟨PR_blind, fun U hU hW => PR_mk hPc hK hU hW⟩ rfl rfl hl.1 rfl (lv_room (Nat.le_of_ble_eq_true rfl)) dX7_largest_69 ⟨Nat.zero_le _, Nat.zero_le _⟩) (fun r_5 hf => ?_)
              refine lv_goto (tgt := 76) hx hb dX7_largest_72 (by decide) ?_
              exact k_76 x2 x4 r_5 ls hf (lv_sub hl [0, 2] rfl)
          · have hf := hf.2 c_2
            refine lv_iload hx hb dX7_largest_39 (lv_at hl 3 rfl) ?_
            refine lv_istore (lv' := [(4, .int x5), (2, .int x2), (3, .int x3), (5, .int x5)]) hx hb dX7_largest_41 hl (by decide) rfl (fun ls hl => ?_)
            refine lv_iload hx hb dX7_largest_43 (lv_at hl 0 rfl) ?_
            refine lv_iload hx hb dX7_largest_45 (lv_at hl 0 rfl) ?_
            have hPc : va_P D classes ([] : va_W) s.heap := hP.sub [] rfl
            refine vp_callSi (W.runS (As := [.int x5]) (rest := [.int x5]) ⟨hx, hb, hml, hown, hts⟩ (c_X7_beside l D cI cZ cW  x5 _ hf) ⟨callB_of 1 hts (gA tw_845) rfl rfl rfl (ht _ tw_7) (ht _ tw_843) hd_X7_beside ⟨Nat.le_of_ble_eq_true rfl, Nat.le_of_ble_eq_true rfl⟩, ht _ tw_844⟩ ⟨PR_blind, fun U hU hW => PR_mk hPc hK hU hW⟩ rfl rfl hl.1 rfl (lv_room (Nat.le_of_ble_eq_true rfl)) dX7_largest_47 ⟨Nat.zero_le _, Nat.zero_le _⟩) (fun r_6 hf => ?_)
            refine lv_iload_n hx hb dX7_largest_50 rfl (lv_at hl 1 rfl) ?_
            refine lv_iand hx hb dX7_largest_51 ?_
            refine lv_ior hx hb dX7_largest_52 ?_
            refine lv_topi (fun x5_7 ex5_7 => ?_)
            have hf := hf x5_7 ex5_7
            refine lv_istore (lv' := [(5, .int x5_7), (4, .int x5), (2, .int x2), (3, .int x3)]) hx hb dX7_largest_53 hl (by decide) rfl (fun ls hl => ?_)
            refine lv_goto (tgt := 32) hx hb dX7_largest_55 (by decide) ?_
            exact hG_32 x2 x3 x5 x5_7 ls hf (lv_sub hl [2, 3, 1, 0] rfl)
        exact main_32 n0_32 x2 x3 x4 x5 ls hI0_32 hl
      refine lv_iload_n hx hb dX7_largest_8 rfl (lv_at hl 0 rfl) ?_
      refine lv_if_eq (tgt := 87) hx hb dX7_largest_9 (by decide) (fun c_8 => ?_) (fun c_8 => ?_)
      · have hf := hf.1 c_8
        refine lv_iload_n hx hb dX7_largest_87 rfl (lv_at hl 1 rfl) ?_
        exact W.iret (v := x3) hx hb hr (fun t ht hW => ⟨x3, rfl, hf, ht⟩) (fun q h => absurd h List.not_mem_nil) dX7_largest_88
      · have hf := hf.2 c_8
        refine lv_iconst (v := (1 : Int32)) hx hb dX7_largest_12 (by decide) ?_
        refine lv_iload_n hx hb dX7_largest_13 rfl (lv_at hl 0 rfl) ?_
        have hPc : va_P D classes ([] : va_W) s.heap := hP.sub [] rfl
        refine vp_callSi (W.runS (As := [.int x2]) (rest := [.int (1 : Int32)]) ⟨hx, hb, hml, hown, hts⟩ (c_X7_least l D cI cZ cW  x2 _ hf) ⟨callB_of 1 hts (gA tw_848) rfl rfl rfl (ht _ tw_7) (ht _ tw_846) hd_X7_least ⟨Nat.le_of_ble_eq_true rfl, Nat.le_of_ble_eq_true rfl⟩, ht _ tw_847⟩ ⟨PR_blind, fun U hU hW => PR_mk hPc hK hU hW⟩ rfl rfl hl.1 rfl (lv_room (Nat.le_of_ble_eq_true rfl)) dX7_largest_14 ⟨Nat.zero_le _, Nat.zero_le _⟩) (fun r_9 hf => ?_)
        refine lv_ishl hx hb dX7_largest_17 ?_
        refine lv_topi (fun x4_10 ex4_10 => ?_)
        have hf := hf x4_10 ex4_10
        refine lv_istore (lv' := [(4, .int x4_10), (2, .int x2), (3, .int x3)]) hx hb dX7_largest_18 hl (by decide) rfl (fun ls hl => ?_)
        refine lv_iload hx hb dX7_largest_20 (lv_at hl 0 rfl) ?_
        refine lv_iload hx hb dX7_largest_22 (lv_at hl 0 rfl) ?_
        have hPc : va_P D classes ([] : va_W) s.heap := hP.sub [] rfl
        refine vp_callSi (W.runS (As := [.int x4_10]) (rest := [.int x4_10]) ⟨hx, hb, hml, hown, hts⟩ (c_X7_beside l D cI cZ cW  x4_10 _ hf) ⟨callB_of 1 hts (gA tw_845) rfl rfl rfl (ht _ tw_7) (ht _ tw_843) hd_X7_beside ⟨Nat.le_of_ble_eq_true rfl, Nat.le_of_ble_eq_true rfl⟩, ht _ tw_844⟩ ⟨PR_blind, fun U hU hW => PR_mk hPc hK hU hW⟩ rfl rfl hl.1 rfl (lv_room (Nat.le_of_ble_eq_true rfl)) dX7_largest_24 ⟨Nat.zero_le _, Nat.zero_le _⟩) (fun r_11 hf => ?_)
        refine lv_iload_n hx hb dX7_largest_27 rfl (lv_at hl 1 rfl) ?_
        refine lv_iand hx hb dX7_largest_28 ?_
        refine lv_ior hx hb dX7_largest_29 ?_
        refine lv_topi (fun x5_12 ex5_12 => ?_)
        have hf := hf x5_12 ex5_12
        refine lv_istore (lv' := [(5, .int x5_12), (4, .int x4_10), (2, .int x2), (3, .int x3)]) hx hb dX7_largest_30 hl (by decide) rfl (fun ls hl => ?_)
        exact k_32 x2 x3 x4_10 x5_12 ls hf (lv_sub hl [2, 3, 1, 0] rfl)
    exact main_8 n0_8 x2 x3 ls hI0_8 hl
  refine lv_aload_n hx hb dX7_largest_0 rfl (lv_at hl 0 rfl) ?_
  refine lv_iload_n hx hb dX7_largest_1 rfl (lv_at hl 1 rfl) ?_
  have hPc : va_P D classes (wM cI cZ q0 s0) s.heap := hP
  refine vp_callSi (W.runV (As := [.int p0]) (rest := []) ⟨hx, hb, hml, hown, hts⟩ (c_X7_estate l D cI cZ cW q0 p0 s0 _ hf) ⟨callB_of 1 hts (gA tw_788) rfl rfl rfl (ht _ tw_7) (ht _ tw_785) hd_X7_estate ⟨Nat.le_of_ble_eq_true rfl, Nat.le_of_ble_eq_true rfl⟩, ht _ tw_787, ht _ twp_22⟩ ⟨PR_blind, va_recv hK hP (ci := 5) (q0 := 0) rfl eM_0, fun U hU hW => PR_mk hPc hK hU hW⟩ rfl rfl hl.1 rfl (lv_room (Nat.le_of_ble_eq_true rfl)) dX7_largest_2 ⟨Nat.zero_le _, Nat.zero_le _⟩) (fun r_13 hf => ?_)
  refine lv_istore_n (lv' := [(2, .int r_13), (0, .ref (q0 0)), (1, .int p0)]) hx hb dX7_largest_5 rfl hl (by decide) rfl (fun ls hl => ?_)
  refine lv_iconst (v := (0 : Int32)) hx hb dX7_largest_6 (by decide) ?_
  refine lv_istore_n (lv' := [(3, .int (0 : Int32)), (2, .int r_13), (0, .ref (q0 0)), (1, .int p0)]) hx hb dX7_largest_7 rfl hl (by decide) rfl (fun ls hl => ?_)
  exact k_8 r_13 (0 : Int32) ls hf (lv_sub hl [1, 0] rfl)
def B_X7_share_84 (G15 : (Int32 × Int32 × Int32 × Int32) → Prop) (s0 : CS) (x1 : Int32) (x2 : Int32) (x3 : Int32) (x4 : Int32) (Q : Int32 → Prop) : Prop := ∀ x4_1 : Int32, x4_1 = x4 + (1 : Int32) → G15 (x1, x2, x3, x4_1)
def LB_X7_share_15 (G15 : (Int32 × Int32 × Int32 × Int32) → Prop) (s0 : CS) (x1 : Int32) (x2 : Int32) (x3 : Int32) (x4 : Int32) (Q : Int32 → Prop) : Prop := ((((1 : Int32) <<< ((s0.1 0) &&& 31)) ≤ x4 → wp_X7_factorial (s0.1 0) (fun r_3 => wp_X7_common x3 r_3 (fun r_4 => ((x2 = 0 → wp_X7_factorial (s0.1 0) (fun r_6 => ¬ r_4 = 0 ∧ Q (r_6 / r_4))) ∧ (¬ x2 = 0 → ¬ r_4 = 0 ∧ Q (x3 / r_4)))))) ∧ (¬ ((1 : Int32) <<< ((s0.1 0) &&& 31)) ≤ x4 → wp_X7_has x4 x1 (fun r_9 => ((¬ r_9 = 0 → B_X7_share_84 G15 s0 x1 x2 x3 x4 Q) ∧ (r_9 = 0 → wp_X7_ones x4 (fun r_11 => wp_X7_factorial r_11 (fun r_12 => wp_X7_ones x4 (fun r_13 => wp_X7_factorial (((s0.1 0) - (1 : Int32)) - r_13) (fun r_14 => ∀ x5_15 : Int32, x5_15 = (r_12 * r_14) → wp_X7_largest (x4 ||| ((1 : Int32) <<< (x1 &&& 31))) s0 (fun r_16 => wp_X7_largest x4 s0 (fun r_17 => ∀ x3_18 : Int32, x3_18 = (x3 + (x5_15 * (r_16 - r_17))) → B_X7_share_84 G15 s0 x1 x2 x3_18 x4 Q)))))))))))
def B_X7_share_15 (s0 : CS) (x1 : Int32) (x2 : Int32) (x3 : Int32) (x4 : Int32) (Q : Int32 → Prop) : Prop := LOOP (fun (G15 : (Int32 × Int32 × Int32 × Int32) → Prop) z => LB_X7_share_15 G15 s0 z.1 z.2.1 z.2.2.1 z.2.2.2 Q) (x1, x2, x3, x4)
def wp_X7_share (p0 : Int32) (p1 : Int32) (s0 : CS) (Q : Int32 → Prop) : Prop := wp_X7_isOwner p0 s0 (fun r_19 => ((¬ r_19 = 0 → B_X7_share_15 s0 p0 p1 (0 : Int32) (0 : Int32) Q) ∧ (r_19 = 0 → Q (-1 : Int32))))
set_option maxHeartbeats 4000000 in
set_option maxRecDepth 100000 in
theorem c_X7_share (l : Launch) (D : va_G) (cI cZ cW : ClassId) (q0 : Nat → Nat) (p0 : Int32) (p1 : Int32) (s0 : CS) (Q : Int32 → Prop) (hf : wp_X7_share p0 p1 s0 Q) : Met l yX7_share (wsA yX7_share cX7_share 6 (some .int)) ({ frames := 3, cells := 0, slots := 0, locals := 72 }) (PR D cI cZ cW [.ref (q0 0), .int p0, .int p1] (wM cI cZ q0 s0)) (vp_Si Q) 0 0 (fun _ => False) := by
  refine Met.ofW (cc := cX7_share) (maxL := 6) (ret := (some .int)) (by decide) rfl ?_
  intro p e s m args below meth c s₁ B hml hv
  obtain ⟨rfl, hP, hK⟩ := hv
  have hx := B.exec
  have hb := B.bytes
  have hr := B.returns
  have hts := atoms_spec (ws := (wsA yX7_share cX7_share 6 (some .int))) B.pre
  have ht : ∀ w ∈ lw_g, w.before _ s = true := fun w h => hts w (List.mem_cons_of_mem _ h)
  have hown : s.vm.findClass RX7 = some m.cls := findClass_of_methodNamed B.named
  have hlocks := B.notSynchronized
  have hl := lv_entry ([.ref (q0 0), .int p0, .int p1]) (n := 6) (Nat.le_of_ble_eq_true rfl)
  rw [lg_entry_eq]
  generalize (lg_sl ([.ref (q0 0), .int p0, .int p1]) ++ List.replicate (6 - (lg_sl ([.ref (q0 0), .int p0, .int p1])).length) Slot.unset).toArray = ls at hl ⊢
  have hl : lv_has ls 6 [(0, .ref (q0 0)), (1, .int p0), (2, .int p1)] := hl
  unfold wp_X7_share at hf
  have k_15 : ∀ (x1 : Int32) (x2 : Int32) (x3 : Int32) (x4 : Int32) (ls : Array Slot), B_X7_share_15 s0 x1 x2 x3 x4 Q → lv_has ls 6 [(0, .ref (q0 0)), (1, .int x1), (2, .int x2), (3, .int x3), (4, .int x4)] → W p l e (headSpec (wsA yX7_share cX7_share 6 (some .int)) ({ frames := 3, cells := 0, slots := 0, locals := 72 })).room s m (#[.ref (q0 0), .int p0, .int p1] : Array Value) below meth c s.heap [] 0 0 (MQ below (vp_Si Q) (#[.ref (q0 0), .int p0, .int p1] : Array Value) s 0 0 (fun _ => False)) (F0 m 15 ls []) := by
    intro x1 x2 x3 x4 ls hf hl
    unfold B_X7_share_15 at hf
    obtain ⟨I_15, ⟨n0_15, hI0_15⟩, hst_15⟩ := hf
    have main_15 : ∀ (n : Nat) (x1 : Int32) (x2 : Int32) (x3 : Int32) (x4 : Int32) (ls : Array Slot), I_15 n (x1, x2, x3, x4) → lv_has ls 6 [(0, .ref (q0 0)), (1, .int x1), (2, .int x2), (3, .int x3), (4, .int x4)] → W p l e (headSpec (wsA yX7_share cX7_share 6 (some .int)) ({ frames := 3, cells := 0, slots := 0, locals := 72 })).room s m (#[.ref (q0 0), .int p0, .int p1] : Array Value) below meth c s.heap [] 0 0 (MQ below (vp_Si Q) (#[.ref (q0 0), .int p0, .int p1] : Array Value) s 0 0 (fun _ => False)) (F0 m 15 ls []) := by
      intro n
      induction n using Nat.strongRecOn with
      | _ n_15 ih_15 =>
      intro x1 x2 x3 x4 ls hI hl
      have hf : LB_X7_share_15 (fun z => ∃ k, k < n_15 ∧ I_15 k z) s0 x1 x2 x3 x4 Q := hst_15 n_15 (x1, x2, x3, x4) hI
      have hG_15 : ∀ (x1 : Int32) (x2 : Int32) (x3 : Int32) (x4 : Int32) (ls : Array Slot), (∃ k, k < n_15 ∧ I_15 k (x1, x2, x3, x4)) → lv_has ls 6 [(0, .ref (q0 0)), (1, .int x1), (2, .int x2), (3, .int x3), (4, .int x4)] → W p l e (headSpec (wsA yX7_share cX7_share 6 (some .int)) ({ frames := 3, cells := 0, slots := 0, locals := 72 })).room s m (#[.ref (q0 0), .int p0, .int p1] : Array Value) below meth c s.heap [] 0 0 (MQ below (vp_Si Q) (#[.ref (q0 0), .int p0, .int p1] : Array Value) s 0 0 (fun _ => False)) (F0 m 15 ls []) := by
        rintro x1 x2 x3 x4 ls ⟨k, hk, hI⟩ hl
        exact ih_15 k hk x1 x2 x3 x4 ls hI hl
      unfold LB_X7_share_15 at hf
      have k_84 : ∀ (x1 : Int32) (x2 : Int32) (x3 : Int32) (x4 : Int32) (ls : Array Slot), B_X7_share_84 (fun z => ∃ k, k < n_15 ∧ I_15 k z) s0 x1 x2 x3 x4 Q → lv_has ls 6 [(0, .ref (q0 0)), (1, .int x1), (2, .int x2), (3, .int x3), (4, .int x4)] → W p l e (headSpec (wsA yX7_share cX7_share 6 (some .int)) ({ frames := 3, cells := 0, slots := 0, locals := 72 })).room s m (#[.ref (q0 0), .int p0, .int p1] : Array Value) below meth c s.heap [] 0 0 (MQ below (vp_Si Q) (#[.ref (q0 0), .int p0, .int p1] : Array Value) s 0 0 (fun _ => False)) (F0 m 84 ls []) := by
        intro x1 x2 x3 x4 ls hf hl
        unfold B_X7_share_84 at hf
        obtain ⟨x4_1, ex4_1⟩ : ∃ y : Int32, y = x4 + (1 : Int32) := ⟨_, rfl⟩
        have hf := hf x4_1 ex4_1
        refine lv_iinc (v := x4_1) (lv' := [(4, .int x4_1), (0, .ref (q0 0)), (1, .int x1), (2, .int x2), (3, .int x3)]) hx hb dX7_share_84 hl (k := 4) rfl (by rw [ex4_1]; rfl) (by decide) rfl (fun ls hl => ?_)
        refine lv_goto (tgt := 15) hx hb dX7_share_87 (by decide) ?_
        exact hG_15 x1 x2 x3 x4_1 ls hf (lv_sub hl [1, 2, 3, 4, 0] rfl)
      refine lv_iload hx hb dX7_share_15 (lv_at hl 4 rfl) ?_
      refine lv_iconst (v := (1 : Int32)) hx hb dX7_share_17 (by decide) ?_
      refine lv_aload_n hx hb dX7_share_18 rfl (lv_at hl 0 rfl) ?_
      refine va_get (D := D) (ci := 5) (v := .int (s0.1 0)) (C := RX7) (T := TX7) (N := 28) hx hb ht inX7 hown hK hP 0 eM_0 rfl 0 (by decide) (ht _ tw_655) (fun _ h9 => h9) rfl dX7_share_19 ?_
      refine lv_ishl hx hb dX7_share_22 ?_
      refine lv_icmp_ge (tgt := 90) hx hb dX7_share_23 (by decide) (fun c_2 => ?_) (fun c_2 => ?_)
      · have hf := hf.1 c_2
        refine lv_iload_n hx hb dX7_share_90 rfl (lv_at hl 3 rfl) ?_
        refine lv_aload_n hx hb dX7_share_91 rfl (lv_at hl 0 rfl) ?_
        refine va_get (D := D) (ci := 5) (v := .int (s0.1 0)) (C := RX7) (T := TX7) (N := 28) hx hb ht inX7 hown hK hP 0 eM_0 rfl 0 (by decide) (ht _ tw_655) (fun _ h9 => h9) rfl dX7_share_92 ?_
        have hPc : va_P D classes ([] : va_W) s.heap := hP.sub [] rfl
        refine vp_callSi (W.runS (As := [.int (s0.1 0)]) (rest := [.int x3]) ⟨hx, hb, hml, hown, hts⟩ (c_X7_factorial l D cI cZ cW  (s0.1 0) _ hf) ⟨callB_of 1 hts (gA tw_977) rfl rfl rfl (ht _ tw_7) (ht _ tw_975) hd_X7_factorial ⟨Nat.le_of_ble_eq_true rfl, Nat.le_of_ble_eq_true rfl⟩, ht _ tw_976⟩ ⟨PR_blind, fun U hU hW => PR_mk hPc hK hU hW⟩ rfl rfl hl.1 rfl (lv_room (Nat.le_of_ble_eq_true rfl)) dX7_share_95 ⟨Nat.zero_le _, Nat.zero_le _⟩) (fun r_3 hf => ?_)
        have hPc : va_P D classes ([] : va_W) s.heap := hP.sub [] rfl
        refine vp_callSi (W.runS (As := [.int x3, .int r_3]) (rest := []) ⟨hx, hb, hml, hown, hts⟩ (c_X7_common l D cI cZ cW  x3 r_3 _ hf) ⟨callB_of 2 hts (gA tw_984) rfl rfl rfl (ht _ tw_7) (ht _ tw_982) hd_X7_common ⟨Nat.le_of_ble_eq_true rfl, Nat.le_of_ble_eq_true rfl⟩, ht _ tw_983⟩ ⟨PR_blind, fun U hU hW => PR_mk hPc hK hU hW⟩ rfl rfl hl.1 rfl (lv_room (Nat.le_of_ble_eq_true rfl)) dX7_share_98 ⟨Nat.zero_le _, Nat.zero_le _⟩) (fun r_4 hf => ?_)
        refine lv_istore (lv' := [(4, .int r_4), (0, .ref (q0 0)), (1, .int x1), (2, .int x2), (3, .int x3)]) hx hb dX7_share_101 hl (by decide) rfl (fun ls hl => ?_)
        refine lv_iload_n hx hb dX7_share_103 rfl (lv_at hl 3 rfl) ?_
        refine lv_if_eq (tgt := 114) hx hb dX7_share_104 (by decide) (fun c_5 => ?_) (fun c_5 => ?_)
        · have hf := hf.1 c_5
          refine lv_aload_n hx hb dX7_share_114 rfl (lv_at hl 1 rfl) ?_
          refine va_get (D := D) (ci := 5) (v := .int (s0.1 0)) (C := RX7) (T := TX7) (N := 28) hx hb ht inX7 hown hK hP 0 eM_0 rfl 0 (by decide) (ht _ tw_655) (fun _ h9 => h9) rfl dX7_share_115 ?_
          have hPc : va_P D classes ([] : va_W) s.heap := hP.sub [] rfl
          refine vp_callSi (W.runS (As := [.int (s0.1 0)]) (rest := []) ⟨hx, hb, hml, hown, hts⟩ (c_X7_factorial l D cI cZ cW  (s0.1 0) _ hf) ⟨callB_of 1 hts (gA tw_977) rfl rfl rfl (ht _ tw_7) (ht _ tw_975) hd_X7_factorial ⟨Nat.le_of_ble_eq_true rfl, Nat.le_of_ble_eq_true rfl⟩, ht _ tw_976⟩ ⟨PR_blind, fun U hU hW => PR_mk hPc hK hU hW⟩ rfl rfl hl.1 rfl (lv_room (Nat.le_of_ble_eq_true rfl)) dX7_share_118 ⟨Nat.zero_le _, Nat.zero_le _⟩) (fun r_6 hf => ?_)
          refine lv_iload hx hb dX7_share_121 (lv_at hl 0 rfl) ?_
          obtain ⟨hz_7, hf⟩ := hf
          refine lv_idiv hx hb dX7_share_123 hz_7 ?_
          exact W.iret (v := (r_6 / r_4)) hx hb hr (fun t ht hW => ⟨(r_6 / r_4), rfl, hf, ht⟩) (fun q h => absurd h List.not_mem_nil) dX7_share_124
        · have hf := hf.2 c_5
          refine lv_iload_n hx hb dX7_share_107 rfl (lv_at hl 4 rfl) ?_
          refine lv_iload hx hb dX7_share_108 (lv_at hl 0 rfl) ?_
          obtain ⟨hz_8, hf⟩ := hf
          refine lv_idiv hx hb dX7_share_110 hz_8 ?_
          refine lv_goto (tgt := 124) hx hb dX7_share_111 (by decide) ?_
          exact W.iret (v := (x3 / r_4)) hx hb hr (fun t ht hW => ⟨(x3 / r_4), rfl, hf, ht⟩) (fun q h => absurd h List.not_mem_nil) dX7_share_124
      · have hf := hf.2 c_2
        refine lv_iload hx hb dX7_share_26 (lv_at hl 4 rfl) ?_
        refine lv_iload_n hx hb dX7_share_28 rfl (lv_at hl 1 rfl) ?_
        have hPc : va_P D classes ([] : va_W) s.heap := hP.sub [] rfl
        refine vp_callSi (W.runS (As := [.int x4, .int x1]) (rest := []) ⟨hx, hb, hml, hown, hts⟩ (c_X7_has l D cI cZ cW  x4 x1 _ hf) ⟨callB_of 2 hts (gA tw_771) rfl rfl rfl (ht _ tw_7) (ht _ tw_769) hd_X7_has ⟨Nat.le_of_ble_eq_true rfl, Nat.le_of_ble_eq_true rfl⟩, ht _ tw_770⟩ ⟨PR_blind, fun U hU hW => PR_mk hPc hK hU hW⟩ rfl rfl hl.1 rfl (lv_room (Nat.le_of_ble_eq_true rfl)) dX7_share_29 ⟨Nat.zero_le _, Nat.zero_le _⟩) (fun r_9 hf => ?_)
        refine lv_if_ne (tgt := 84) hx hb dX7_share_32 (by decide) (fun c_10 => ?_) (fun c_10 => ?_)
        · have hf := hf.1 c_10
          exact k_84 x1 x2 x3 x4 ls hf (lv_sub hl [0, 1, 2, 3, 4] rfl)
        · have hf := hf.2 c_10
          refine lv_iload hx hb dX7_share_35 (lv_at hl 4 rfl) ?_
          have hPc : va_P D classes ([] : va_W) s.heap := hP.sub [] rfl
          refine vp_callSi (W.runS (As := [.int x4]) (rest := []) ⟨hx, hb, hml, hown, hts⟩ (c_X7_ones l D cI cZ cW  x4 _ hf) ⟨callB_of 1 hts (gA tw_795) rfl rfl rfl (ht _ tw_7) (ht _ tw_793) hd_X7_ones ⟨Nat.le_of_ble_eq_true rfl, Nat.le_of_ble_eq_true rfl⟩, ht _ tw_794⟩ ⟨PR_blind, fun U hU hW => PR_mk hPc hK hU hW⟩ rfl rfl hl.1 rfl (lv_room (Nat.le_of_ble_eq_true rfl)) dX7_share_37 ⟨Nat.zero_le _, Nat.zero_le _⟩) (fun r_11 hf => ?_)
          have hPc : va_P D classes ([] : va_W) s.heap := hP.sub [] rfl
          refine vp_callSi (W.runS (As := [.int r_11]) (rest := []) ⟨hx, hb, hml, hown, hts⟩ (c_X7_factorial l D cI cZ cW  r_11 _ hf) ⟨callB_of 1 hts (gA tw_977) rfl rfl rfl (ht _ tw_7) (ht _ tw_975) hd_X7_factorial ⟨Nat.le_of_ble_eq_true rfl, Nat.le_of_ble_eq_true rfl⟩, ht _ tw_976⟩ ⟨PR_blind, fun U hU hW => PR_mk hPc hK hU hW⟩ rfl rfl hl.1 rfl (lv_room (Nat.le_of_ble_eq_true rfl)) dX7_share_40 ⟨Nat.zero_le _, Nat.zero_le _⟩) (fun r_12 hf => ?_)
          refine lv_aload_n hx hb dX7_share_43 rfl (lv_at hl 0 rfl) ?_
          refine va_get (D := D) (ci := 5) (v := .int (s0.1 0)) (C := RX7) (T := TX7) (N := 28) hx hb ht inX7 hown hK hP 0 eM_0 rfl 0 (by decide) (ht _ tw_655) (fun _ h9 => h9) rfl dX7_share_44 ?_
          refine lv_iconst (v := (1 : Int32)) hx hb dX7_share_47 (by decide) ?_
          refine lv_isub hx hb dX7_share_48 ?_
          refine lv_iload hx hb dX7_share_49 (lv_at hl 4 rfl) ?_
          have hPc : va_P D classes ([] : va_W) s.heap := hP.sub [] rfl
          refine vp_callSi (W.runS (As := [.int x4]) (rest := [.int ((s0.1 0) - (1 : Int32)), .int r_12]) ⟨hx, hb, hml, hown, hts⟩ (c_X7_ones l D cI cZ cW  x4 _ hf) ⟨callB_of 1 hts (gA tw_795) rfl rfl rfl (ht _ tw_7) (ht _ tw_793) hd_X7_ones ⟨Nat.le_of_ble_eq_true rfl, Nat.le_of_ble_eq_true rfl⟩, ht _ tw_794⟩ ⟨PR_blind, fun U hU hW => PR_mk hPc hK hU hW⟩ rfl rfl hl.1 rfl (lv_room (Nat.le_of_ble_eq_true rfl)) dX7_share_51 ⟨Nat.zero_le _, Nat.zero_le _⟩) (fun r_13 hf => ?_)
          refine lv_isub hx hb dX7_share_54 ?_
          have hPc : va_P D classes ([] : va_W) s.heap := hP.sub [] rfl
          refine vp_callSi (W.runS (As := [.int (((s0.1 0) - (1 : Int32)) - r_13)]) (rest := [.int r_12]) ⟨hx, hb, hml, hown, hts⟩ (c_X7_factorial l D cI cZ cW  (((s0.1 0) - (1 : Int32)) - r_13) _ hf) ⟨callB_of 1 hts (gA tw_977) rfl rfl rfl (ht _ tw_7) (ht _ tw_975) hd_X7_factorial ⟨Nat.le_of_ble_eq_true rfl, Nat.le_of_ble_eq_true rfl⟩, ht _ tw_976⟩ ⟨PR_blind, fun U hU hW => PR_mk hPc hK hU hW⟩ rfl rfl hl.1 rfl (lv_room (Nat.le_of_ble_eq_true rfl)) dX7_share_55 ⟨Nat.zero_le _, Nat.zero_le _⟩) (fun r_14 hf => ?_)
          refine lv_imul hx hb dX7_share_58 ?_
          refine lv_topi (fun x5_15 ex5_15 => ?_)
          have hf := hf x5_15 ex5_15
          refine lv_istore (lv' := [(5, .int x5_15), (0, .ref (q0 0)), (1, .int x1), (2, .int x2), (3, .int x3), (4, .int x4)]) hx hb dX7_share_59 hl (by decide) rfl (fun ls hl => ?_)
          refine lv_iload_n hx hb dX7_share_61 rfl (lv_at hl 4 rfl) ?_
          refine lv_iload hx hb dX7_share_62 (lv_at hl 0 rfl) ?_
          refine lv_aload_n hx hb dX7_share_64 rfl (lv_at hl 1 rfl) ?_
          refine lv_iload hx hb dX7_share_65 (lv_at hl 5 rfl) ?_
          refine lv_iconst (v := (1 : Int32)) hx hb dX7_share_67 (by decide) ?_
          refine lv_iload_n hx hb dX7_share_68 rfl (lv_at hl 2 rfl) ?_
          refine lv_ishl hx hb dX7_share_69 ?_
          refine lv_ior hx hb dX7_share_70 ?_
          have hPc : va_P D classes (wM cI cZ q0 s0) s.heap := hP
          refine vp_callSi (W.runV (As := [.int (x4 ||| ((1 : Int32) <<< (x1 &&& 31)))]) (rest := [.int x5_15, .int x3]) ⟨hx, hb, hml, hown, hts⟩ (c_X7_largest l D cI cZ cW q0 (x4 ||| ((1 : Int32) <<< (x1 &&& 31))) s0 _ hf) ⟨callB_of 1 hts (gA tw_981) rfl rfl rfl (ht _ tw_7) (ht _ tw_978) hd_X7_largest ⟨Nat.le_of_ble_eq_true rfl, Nat.le_of_ble_eq_true rfl⟩, ht _ tw_980, ht _ twp_47⟩ ⟨PR_blind, va_recv hK hP (ci := 5) (q0 := 0) rfl eM_0, fun U hU hW => PR_mk hPc hK hU hW⟩ rfl rfl hl.1 rfl (lv_room (Nat.le_of_ble_eq_true rfl)) dX7_share_71 ⟨Nat.zero_le _, Nat.zero_le _⟩) (fun r_16 hf => ?_)
          refine lv_aload_n hx hb dX7_share_74 rfl (lv_at hl 1 rfl) ?_
          refine lv_iload hx hb dX7_share_75 (lv_at hl 5 rfl) ?_
          have hPc : va_P D classes (wM cI cZ q0 s0) s.heap := hP
          refine vp_callSi (W.runV (As := [.int x4]) (rest := [.int r_16, .int x5_15, .int x3]) ⟨hx, hb, hml, hown, hts⟩ (c_X7_largest l D cI cZ cW q0 x4 s0 _ hf) ⟨callB_of 1 hts (gA tw_981) rfl rfl rfl (ht _ tw_7) (ht _ tw_978) hd_X7_largest ⟨Nat.le_of_ble_eq_true rfl, Nat.le_of_ble_eq_true rfl⟩, ht _ tw_980, ht _ twp_47⟩ ⟨PR_blind, va_recv hK hP (ci := 5) (q0 := 0) rfl eM_0, fun U hU hW => PR_mk hPc hK hU hW⟩ rfl rfl hl.1 rfl (lv_room (Nat.le_of_ble_eq_true rfl)) dX7_share_77 ⟨Nat.zero_le _, Nat.zero_le _⟩) (fun r_17 hf => ?_)
          refine lv_isub hx hb dX7_share_80 ?_
          refine lv_imul hx hb dX7_share_81 ?_
          refine lv_iadd hx hb dX7_share_82 ?_
          refine lv_topi (fun x3_18 ex3_18 => ?_)
          have hf := hf x3_18 ex3_18
          refine lv_istore_n (lv' := [(3, .int x3_18), (5, .int x5_15), (0, .ref (q0 0)), (1, .int x1), (2, .int x2), (4, .int x4)]) hx hb dX7_share_83 rfl hl (by decide) rfl (fun ls hl => ?_)
          exact k_84 x1 x2 x3_18 x4 ls hf (lv_sub hl [2, 3, 4, 0, 5] rfl)
    exact main_15 n0_15 x1 x2 x3 x4 ls hI0_15 hl
  refine lv_aload_n hx hb dX7_share_0 rfl (lv_at hl 0 rfl) ?_
  refine lv_iload_n hx hb dX7_share_1 rfl (lv_at hl 1 rfl) ?_
  have hPc : va_P D classes (wM cI cZ q0 s0) s.heap := hP
  refine vp_callSi (W.runV (As := [.int p0]) (rest := []) ⟨hx, hb, hml, hown, hts⟩ (c_X7_isOwner l D cI cZ cW q0 p0 s0 _ hf) ⟨callB_of 1 hts (gA tw_784) rfl rfl rfl (ht _ tw_7) (ht _ tw_781) hd_X7_isOwner ⟨Nat.le_of_ble_eq_true rfl, Nat.le_of_ble_eq_true rfl⟩, ht _ tw_783, ht _ twp_21⟩ ⟨PR_blind, va_recv hK hP (ci := 5) (q0 := 0) rfl eM_0, fun U hU hW => PR_mk hPc hK hU hW⟩ rfl rfl hl.1 rfl (lv_room (Nat.le_of_ble_eq_true rfl)) dX7_share_2 ⟨Nat.zero_le _, Nat.zero_le _⟩) (fun r_19 hf => ?_)
  refine lv_if_ne (tgt := 10) hx hb dX7_share_5 (by decide) (fun c_20 => ?_) (fun c_20 => ?_)
  · have hf := hf.1 c_20
    refine lv_iconst (v := (0 : Int32)) hx hb dX7_share_10 (by decide) ?_
    refine lv_istore_n (lv' := [(3, .int (0 : Int32)), (0, .ref (q0 0)), (1, .int p0), (2, .int p1)]) hx hb dX7_share_11 rfl hl (by decide) rfl (fun ls hl => ?_)
    refine lv_iconst (v := (0 : Int32)) hx hb dX7_share_12 (by decide) ?_
    refine lv_istore (lv' := [(4, .int (0 : Int32)), (3, .int (0 : Int32)), (0, .ref (q0 0)), (1, .int p0), (2, .int p1)]) hx hb dX7_share_13 hl (by decide) rfl (fun ls hl => ?_)
    exact k_15 p0 p1 (0 : Int32) (0 : Int32) ls hf (lv_sub hl [2, 3, 4, 1, 0] rfl)
  · have hf := hf.2 c_20
    refine lv_iconst (v := (-1 : Int32)) hx hb dX7_share_8 (by decide) ?_
    exact W.iret (v := (-1 : Int32)) hx hb hr (fun t ht hW => ⟨(-1 : Int32), rfl, hf, ht⟩) (fun q h => absurd h List.not_mem_nil) dX7_share_9
def B_X7_holeCells_39 (G4 : (Int32 × Int32 × Int32) → Prop) (s0 : CS) (x1 : Int32) (x3 : Int32) (t0 : Int32) (t1 : Int32) (Q : Int32 → Prop) : Prop := ∀ x2_1 : Int32, x2_1 = (t1 + t0) → ∀ x3_2 : Int32, x3_2 = x3 + (1 : Int32) → G4 (x1, x2_1, x3_2)
def LB_X7_holeCells_4 (G4 : (Int32 × Int32 × Int32) → Prop) (s0 : CS) (x1 : Int32) (x2 : Int32) (x3 : Int32) (Q : Int32 → Prop) : Prop := (((s0.1 1) ≤ x3 → Q x2) ∧ (¬ (s0.1 1) ≤ x3 → vp_in ((20 : Int32) + x3) 70 ∧ ((¬ ((s0.2.1 5) ((20 : Int32) + x3).toNatClampNeg) = x1 → B_X7_holeCells_39 G4 s0 x1 x3 (0 : Int32) x2 Q) ∧ (((s0.2.1 5) ((20 : Int32) + x3).toNatClampNeg) = x1 → wp_X7_of (0 : Int32) x3 s0 (fun r_6 => wp_X7_ones r_6 (fun r_7 => B_X7_holeCells_39 G4 s0 x1 x3 r_7 x2 Q))))))
def B_X7_holeCells_4 (s0 : CS) (x1 : Int32) (x2 : Int32) (x3 : Int32) (Q : Int32 → Prop) : Prop := LOOP (fun (G4 : (Int32 × Int32 × Int32) → Prop) z => LB_X7_holeCells_4 G4 s0 z.1 z.2.1 z.2.2 Q) (x1, x2, x3)
def wp_X7_holeCells (p0 : Int32) (s0 : CS) (Q : Int32 → Prop) : Prop := B_X7_holeCells_4 s0 p0 (0 : Int32) (0 : Int32) Q
set_option maxHeartbeats 4000000 in
set_option maxRecDepth 100000 in
theorem c_X7_holeCells (l : Launch) (D : va_G) (cI cZ cW : ClassId) (q0 : Nat → Nat) (p0 : Int32) (s0 : CS) (Q : Int32 → Prop) (hf : wp_X7_holeCells p0 s0 Q) : Met l yX7_holeCells (wsA yX7_holeCells cX7_holeCells 4 (some .int)) ({ frames := 1, cells := 0, slots := 0, locals := 24 }) (PR D cI cZ cW [.ref (q0 0), .int p0] (wM cI cZ q0 s0)) (vp_Si Q) 0 0 (fun _ => False) := by
  refine Met.ofW (cc := cX7_holeCells) (maxL := 4) (ret := (some .int)) (by decide) rfl ?_
  intro p e s m args below meth c s₁ B hml hv
  obtain ⟨rfl, hP, hK⟩ := hv
  have hx := B.exec
  have hb := B.bytes
  have hr := B.returns
  have hts := atoms_spec (ws := (wsA yX7_holeCells cX7_holeCells 4 (some .int))) B.pre
  have ht : ∀ w ∈ lw_g, w.before _ s = true := fun w h => hts w (List.mem_cons_of_mem _ h)
  have hown : s.vm.findClass RX7 = some m.cls := findClass_of_methodNamed B.named
  have hlocks := B.notSynchronized
  have hl := lv_entry ([.ref (q0 0), .int p0]) (n := 4) (Nat.le_of_ble_eq_true rfl)
  rw [lg_entry_eq]
  generalize (lg_sl ([.ref (q0 0), .int p0]) ++ List.replicate (4 - (lg_sl ([.ref (q0 0), .int p0])).length) Slot.unset).toArray = ls at hl ⊢
  have hl : lv_has ls 4 [(0, .ref (q0 0)), (1, .int p0)] := hl
  unfold wp_X7_holeCells at hf
  have k_4 : ∀ (x1 : Int32) (x2 : Int32) (x3 : Int32) (ls : Array Slot), B_X7_holeCells_4 s0 x1 x2 x3 Q → lv_has ls 4 [(0, .ref (q0 0)), (1, .int x1), (2, .int x2), (3, .int x3)] → W p l e (headSpec (wsA yX7_holeCells cX7_holeCells 4 (some .int)) ({ frames := 1, cells := 0, slots := 0, locals := 24 })).room s m (#[.ref (q0 0), .int p0] : Array Value) below meth c s.heap [] 0 0 (MQ below (vp_Si Q) (#[.ref (q0 0), .int p0] : Array Value) s 0 0 (fun _ => False)) (F0 m 4 ls []) := by
    intro x1 x2 x3 ls hf hl
    unfold B_X7_holeCells_4 at hf
    obtain ⟨I_4, ⟨n0_4, hI0_4⟩, hst_4⟩ := hf
    have main_4 : ∀ (n : Nat) (x1 : Int32) (x2 : Int32) (x3 : Int32) (ls : Array Slot), I_4 n (x1, x2, x3) → lv_has ls 4 [(0, .ref (q0 0)), (1, .int x1), (2, .int x2), (3, .int x3)] → W p l e (headSpec (wsA yX7_holeCells cX7_holeCells 4 (some .int)) ({ frames := 1, cells := 0, slots := 0, locals := 24 })).room s m (#[.ref (q0 0), .int p0] : Array Value) below meth c s.heap [] 0 0 (MQ below (vp_Si Q) (#[.ref (q0 0), .int p0] : Array Value) s 0 0 (fun _ => False)) (F0 m 4 ls []) := by
      intro n
      induction n using Nat.strongRecOn with
      | _ n_4 ih_4 =>
      intro x1 x2 x3 ls hI hl
      have hf : LB_X7_holeCells_4 (fun z => ∃ k, k < n_4 ∧ I_4 k z) s0 x1 x2 x3 Q := hst_4 n_4 (x1, x2, x3) hI
      have hG_4 : ∀ (x1 : Int32) (x2 : Int32) (x3 : Int32) (ls : Array Slot), (∃ k, k < n_4 ∧ I_4 k (x1, x2, x3)) → lv_has ls 4 [(0, .ref (q0 0)), (1, .int x1), (2, .int x2), (3, .int x3)] → W p l e (headSpec (wsA yX7_holeCells cX7_holeCells 4 (some .int)) ({ frames := 1, cells := 0, slots := 0, locals := 24 })).room s m (#[.ref (q0 0), .int p0] : Array Value) below meth c s.heap [] 0 0 (MQ below (vp_Si Q) (#[.ref (q0 0), .int p0] : Array Value) s 0 0 (fun _ => False)) (F0 m 4 ls []) := by
        rintro x1 x2 x3 ls ⟨k, hk, hI⟩ hl
        exact ih_4 k hk x1 x2 x3 ls hI hl
      unfold LB_X7_holeCells_4 at hf
      have k_39 : ∀ (x1 : Int32) (x3 : Int32) (t0 : Int32) (t1 : Int32) (ls : Array Slot), B_X7_holeCells_39 (fun z => ∃ k, k < n_4 ∧ I_4 k z) s0 x1 x3 t0 t1 Q → lv_has ls 4 [(0, .ref (q0 0)), (1, .int x1), (3, .int x3)] → W p l e (headSpec (wsA yX7_holeCells cX7_holeCells 4 (some .int)) ({ frames := 1, cells := 0, slots := 0, locals := 24 })).room s m (#[.ref (q0 0), .int p0] : Array Value) below meth c s.heap [] 0 0 (MQ below (vp_Si Q) (#[.ref (q0 0), .int p0] : Array Value) s 0 0 (fun _ => False)) (F0 m 39 ls [.int t0, .int t1]) := by
        intro x1 x3 t0 t1 ls hf hl
        unfold B_X7_holeCells_39 at hf
        refine lv_iadd hx hb dX7_holeCells_39 ?_
        refine lv_topi (fun x2_1 ex2_1 => ?_)
        have hf := hf x2_1 ex2_1
        refine lv_istore_n (lv' := [(2, .int x2_1), (0, .ref (q0 0)), (1, .int x1), (3, .int x3)]) hx hb dX7_holeCells_40 rfl hl (by decide) rfl (fun ls hl => ?_)
        obtain ⟨x3_2, ex3_2⟩ : ∃ y : Int32, y = x3 + (1 : Int32) := ⟨_, rfl⟩
        have hf := hf x3_2 ex3_2
        refine lv_iinc (v := x3_2) (lv' := [(3, .int x3_2), (2, .int x2_1), (0, .ref (q0 0)), (1, .int x1)]) hx hb dX7_holeCells_41 hl (k := 3) rfl (by rw [ex3_2]; rfl) (by decide) rfl (fun ls hl => ?_)
        refine lv_goto (tgt := 4) hx hb dX7_holeCells_44 (by decide) ?_
        exact hG_4 x1 x2_1 x3_2 ls hf (lv_sub hl [2, 3, 1, 0] rfl)
      refine lv_iload_n hx hb dX7_holeCells_4 rfl (lv_at hl 3 rfl) ?_
      refine lv_aload_n hx hb dX7_holeCells_5 rfl (lv_at hl 0 rfl) ?_
      refine va_get (D := D) (ci := 5) (v := .int (s0.1 1)) (C := RX7) (T := TX7) (N := 28) hx hb ht inX7 hown hK hP 0 eM_0 rfl 1 (by decide) (ht _ tw_656) (fun _ h9 => h9) rfl dX7_holeCells_6 ?_
      refine lv_icmp_ge (tgt := 47) hx hb dX7_holeCells_9 (by decide) (fun c_3 => ?_) (fun c_3 => ?_)
      · have hf := hf.1 c_3
        refine lv_iload_n hx hb dX7_holeCells_47 rfl (lv_at hl 2 rfl) ?_
        exact W.iret (v := x2) hx hb hr (fun t ht hW => ⟨x2, rfl, hf, ht⟩) (fun q h => absurd h List.not_mem_nil) dX7_holeCells_48
      · have hf := hf.2 c_3
        refine lv_iload_n hx hb dX7_holeCells_12 rfl (lv_at hl 2 rfl) ?_
        refine lv_aload_n hx hb dX7_holeCells_13 rfl (lv_at hl 0 rfl) ?_
        refine va_get (D := D) (ci := 5) (v := .ref (q0 4)) (C := RX7) (T := TX7) (N := 28) hx hb ht inX7 hown hK hP 0 eM_0 rfl 5 (by decide) (ht _ tw_660) (fun _ h9 => h9) rfl dX7_holeCells_14 ?_
        refine lv_bipush (v := (20 : Int32)) hx hb dX7_holeCells_17 (by decide) ?_
        refine lv_iload_n hx hb dX7_holeCells_19 rfl (lv_at hl 3 rfl) ?_
        refine lv_iadd hx hb dX7_holeCells_20 ?_
        obtain ⟨hi_4, hf⟩ := hf
        refine va_iald hx hb hK hP 4 0 eM_4 rfl hi_4 dX7_holeCells_21 ?_
        refine lv_iload_n hx hb dX7_holeCells_22 rfl (lv_at hl 1 rfl) ?_
        refine lv_icmp_ne (tgt := 38) hx hb dX7_holeCells_23 (by decide) (fun c_5 => ?_) (fun c_5 => ?_)
        · have hf := hf.1 c_5
          refine lv_iconst (v := (0 : Int32)) hx hb dX7_holeCells_38 (by decide) ?_
          exact k_39 x1 x3 (0 : Int32) x2 ls hf (lv_sub hl [0, 1, 3] rfl)
        · have hf := hf.2 c_5
          refine lv_aload_n hx hb dX7_holeCells_26 rfl (lv_at hl 0 rfl) ?_
          refine lv_iconst (v := (0 : Int32)) hx hb dX7_holeCells_27 (by decide) ?_
          refine lv_iload_n hx hb dX7_holeCells_28 rfl (lv_at hl 3 rfl) ?_
          have hPc : va_P D classes (wM cI cZ q0 s0) s.heap := hP
          refine vp_callSi (W.runV (As := [.int (0 : Int32), .int x3]) (rest := [.int x2]) ⟨hx, hb, hml, hown, hts⟩ (c_X7_of l D cI cZ cW q0 (0 : Int32) x3 s0 _ hf) ⟨callB_of 2 hts (gA tw_807) rfl rfl rfl (ht _ tw_7) (ht _ tw_804) hd_X7_of ⟨Nat.le_of_ble_eq_true rfl, Nat.le_of_ble_eq_true rfl⟩, ht _ tw_806, ht _ twp_25⟩ ⟨PR_blind, va_recv hK hP (ci := 5) (q0 := 0) rfl eM_0, fun U hU hW => PR_mk hPc hK hU hW⟩ rfl rfl hl.1 rfl (lv_room (Nat.le_of_ble_eq_true rfl)) dX7_holeCells_29 ⟨Nat.zero_le _, Nat.zero_le _⟩) (fun r_6 hf => ?_)
          have hPc : va_P D classes ([] : va_W) s.heap := hP.sub [] rfl
          refine vp_callSi (W.runS (As := [.int r_6]) (rest := [.int x2]) ⟨hx, hb, hml, hown, hts⟩ (c_X7_ones l D cI cZ cW  r_6 _ hf) ⟨callB_of 1 hts (gA tw_795) rfl rfl rfl (ht _ tw_7) (ht _ tw_793) hd_X7_ones ⟨Nat.le_of_ble_eq_true rfl, Nat.le_of_ble_eq_true rfl⟩, ht _ tw_794⟩ ⟨PR_blind, fun U hU hW => PR_mk hPc hK hU hW⟩ rfl rfl hl.1 rfl (lv_room (Nat.le_of_ble_eq_true rfl)) dX7_holeCells_32 ⟨Nat.zero_le _, Nat.zero_le _⟩) (fun r_7 hf => ?_)
          refine lv_goto (tgt := 39) hx hb dX7_holeCells_35 (by decide) ?_
          exact k_39 x1 x3 r_7 x2 ls hf (lv_sub hl [0, 1, 3] rfl)
    exact main_4 n0_4 x1 x2 x3 ls hI0_4 hl
  refine lv_iconst (v := (0 : Int32)) hx hb dX7_holeCells_0 (by decide) ?_
  refine lv_istore_n (lv' := [(2, .int (0 : Int32)), (0, .ref (q0 0)), (1, .int p0)]) hx hb dX7_holeCells_1 rfl hl (by decide) rfl (fun ls hl => ?_)
  refine lv_iconst (v := (0 : Int32)) hx hb dX7_holeCells_2 (by decide) ?_
  refine lv_istore_n (lv' := [(3, .int (0 : Int32)), (2, .int (0 : Int32)), (0, .ref (q0 0)), (1, .int p0)]) hx hb dX7_holeCells_3 rfl hl (by decide) rfl (fun ls hl => ?_)
  exact k_4 p0 (0 : Int32) (0 : Int32) ls hf (lv_sub hl [2, 3, 1, 0] rfl)
