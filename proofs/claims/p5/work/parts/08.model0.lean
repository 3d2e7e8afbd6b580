theorem dX7_in_0 : decode cX7_in 0 = .ok (.lload_n 0, 1) := by decide +kernel
theorem dX7_in_1 : decode cX7_in 1 = .ok (.lload_n 2, 1) := by decide +kernel
theorem dX7_in_2 : decode cX7_in 2 = .ok (.lcmp, 1) := by decide +kernel
theorem dX7_in_3 : decode cX7_in 3 = .ok (.ifCond .lt 14, 3) := by decide +kernel
theorem dX7_in_6 : decode cX7_in 6 = .ok (.lload_n 0, 1) := by decide +kernel
theorem dX7_in_7 : decode cX7_in 7 = .ok (.lload 4, 2) := by decide +kernel
theorem dX7_in_9 : decode cX7_in 9 = .ok (.lcmp, 1) := by decide +kernel
theorem dX7_in_10 : decode cX7_in 10 = .ok (.ifCond .gt 7, 3) := by decide +kernel
theorem dX7_in_13 : decode cX7_in 13 = .ok (.iconst 1, 1) := by decide +kernel
theorem dX7_in_14 : decode cX7_in 14 = .ok (.goto 4, 3) := by decide +kernel
theorem dX7_in_17 : decode cX7_in 17 = .ok (.iconst 0, 1) := by decide +kernel
theorem dX7_in_18 : decode cX7_in 18 = .ok (.ireturn, 1) := by decide +kernel
theorem dX7_has_0 : decode cX7_has 0 = .ok (.iload_n 0, 1) := by decide +kernel
theorem dX7_has_1 : decode cX7_has 1 = .ok (.iload_n 1, 1) := by decide +kernel
theorem dX7_has_2 : decode cX7_has 2 = .ok (.ishr, 1) := by decide +kernel
theorem dX7_has_3 : decode cX7_has 3 = .ok (.iconst 1, 1) := by decide +kernel
theorem dX7_has_4 : decode cX7_has 4 = .ok (.iand, 1) := by decide +kernel
theorem dX7_has_5 : decode cX7_has 5 = .ok (.iconst 1, 1) := by decide +kernel
theorem dX7_has_6 : decode cX7_has 6 = .ok (.if_icmp .ne 7, 3) := by decide +kernel
theorem dX7_has_9 : decode cX7_has 9 = .ok (.iconst 1, 1) := by decide +kernel
theorem dX7_has_10 : decode cX7_has 10 = .ok (.goto 4, 3) := by decide +kernel
theorem dX7_has_13 : decode cX7_has 13 = .ok (.iconst 0, 1) := by decide +kernel
theorem dX7_has_14 : decode cX7_has 14 = .ok (.ireturn, 1) := by decide +kernel
theorem dX7_ones_0 : decode cX7_ones 0 = .ok (.iconst 0, 1) := by decide +kernel
theorem dX7_ones_1 : decode cX7_ones 1 = .ok (.istore_n 1, 1) := by decide +kernel
theorem dX7_ones_2 : decode cX7_ones 2 = .ok (.iconst 0, 1) := by decide +kernel
theorem dX7_ones_3 : decode cX7_ones 3 = .ok (.istore_n 2, 1) := by decide +kernel
theorem dX7_ones_4 : decode cX7_ones 4 = .ok (.iload_n 2, 1) := by decide +kernel
theorem dX7_ones_5 : decode cX7_ones 5 = .ok (.bipush 20, 2) := by decide +kernel
theorem dX7_ones_7 : decode cX7_ones 7 = .ok (.if_icmp .ge 17, 3) := by decide +kernel
theorem dX7_ones_10 : decode cX7_ones 10 = .ok (.iload_n 1, 1) := by decide +kernel
theorem dX7_ones_11 : decode cX7_ones 11 = .ok (.iload_n 0, 1) := by decide +kernel
theorem dX7_ones_12 : decode cX7_ones 12 = .ok (.iload_n 2, 1) := by decide +kernel
theorem dX7_ones_13 : decode cX7_ones 13 = .ok (.ishr, 1) := by decide +kernel
theorem dX7_ones_14 : decode cX7_ones 14 = .ok (.iconst 1, 1) := by decide +kernel
theorem dX7_ones_15 : decode cX7_ones 15 = .ok (.iand, 1) := by decide +kernel
theorem dX7_ones_16 : decode cX7_ones 16 = .ok (.iadd, 1) := by decide +kernel
theorem dX7_ones_17 : decode cX7_ones 17 = .ok (.istore_n 1, 1) := by decide +kernel
theorem dX7_ones_18 : decode cX7_ones 18 = .ok (.iinc 2 1, 3) := by decide +kernel
theorem dX7_ones_21 : decode cX7_ones 21 = .ok (.goto (-17), 3) := by decide +kernel
theorem dX7_ones_24 : decode cX7_ones 24 = .ok (.iload_n 1, 1) := by decide +kernel
theorem dX7_ones_25 : decode cX7_ones 25 = .ok (.ireturn, 1) := by decide +kernel
theorem dX7_write_0 : decode cX7_write 0 = .ok (.iload_n 1, 1) := by decide +kernel
theorem dX7_write_1 : decode cX7_write 1 = .ok (.i2l, 1) := by decide +kernel
theorem dX7_write_2 : decode cX7_write 2 = .ok (.lconst 0, 1) := by decide +kernel
theorem dX7_write_3 : decode cX7_write 3 = .ok (.ldc2_w 56, 3) := by decide +kernel
theorem dX7_write_6 : decode cX7_write 6 = .ok (.invokestatic 58, 3) := by decide +kernel
theorem dX7_write_9 : decode cX7_write 9 = .ok (.ifCond .ne 6, 3) := by decide +kernel
theorem dX7_write_12 : decode cX7_write 12 = .ok (.bipush (-2), 2) := by decide +kernel
theorem dX7_write_14 : decode cX7_write 14 = .ok (.ireturn, 1) := by decide +kernel
theorem dX7_write_15 : decode cX7_write 15 = .ok (.aload_n 0, 1) := by decide +kernel
theorem dX7_write_16 : decode cX7_write 16 = .ok (.getfield 62, 3) := by decide +kernel
theorem dX7_write_19 : decode cX7_write 19 = .ok (.bipush 48, 2) := by decide +kernel
theorem dX7_write_21 : decode cX7_write 21 = .ok (.if_icmp .ne 6, 3) := by decide +kernel
theorem dX7_write_24 : decode cX7_write 24 = .ok (.bipush (-4), 2) := by decide +kernel
theorem dX7_write_26 : decode cX7_write 26 = .ok (.ireturn, 1) := by decide +kernel
theorem dX7_write_27 : decode cX7_write 27 = .ok (.aload_n 0, 1) := by decide +kernel
theorem dX7_write_28 : decode cX7_write 28 = .ok (.getfield 31, 3) := by decide +kernel
theorem dX7_write_31 : decode cX7_write 31 = .ok (.aload_n 0, 1) := by decide +kernel
theorem dX7_write_32 : decode cX7_write 32 = .ok (.getfield 62, 3) := by decide +kernel
theorem dX7_write_35 : decode cX7_write 35 = .ok (.iload_n 1, 1) := by decide +kernel
theorem dX7_write_36 : decode cX7_write 36 = .ok (.iastore, 1) := by decide +kernel
theorem dX7_write_37 : decode cX7_write 37 = .ok (.aload_n 0, 1) := by decide +kernel
theorem dX7_write_38 : decode cX7_write 38 = .ok (.dup, 1) := by decide +kernel
theorem dX7_write_39 : decode cX7_write 39 = .ok (.getfield 62, 3) := by decide +kernel
theorem dX7_write_42 : decode cX7_write 42 = .ok (.iconst 1, 1) := by decide +kernel
theorem dX7_write_43 : decode cX7_write 43 = .ok (.iadd, 1) := by decide +kernel
theorem dX7_write_44 : decode cX7_write 44 = .ok (.putfield 62, 3) := by decide +kernel
theorem dX7_write_47 : decode cX7_write 47 = .ok (.aload_n 0, 1) := by decide +kernel
theorem dX7_write_48 : decode cX7_write 48 = .ok (.getfield 62, 3) := by decide +kernel
theorem dX7_write_51 : decode cX7_write 51 = .ok (.ireturn, 1) := by decide +kernel
theorem dX7_wipe_0 : decode cX7_wipe 0 = .ok (.aload_n 0, 1) := by decide +kernel
theorem dX7_wipe_1 : decode cX7_wipe 1 = .ok (.getfield 62, 3) := by decide +kernel
theorem dX7_wipe_4 : decode cX7_wipe 4 = .ok (.istore_n 1, 1) := by decide +kernel
theorem dX7_wipe_5 : decode cX7_wipe 5 = .ok (.aload_n 0, 1) := by decide +kernel
theorem dX7_wipe_6 : decode cX7_wipe 6 = .ok (.iconst 0, 1) := by decide +kernel
theorem dX7_wipe_7 : decode cX7_wipe 7 = .ok (.putfield 62, 3) := by decide +kernel
theorem dX7_wipe_10 : decode cX7_wipe 10 = .ok (.iload_n 1, 1) := by decide +kernel
theorem dX7_wipe_11 : decode cX7_wipe 11 = .ok (.ireturn, 1) := by decide +kernel
theorem dX7_told_0 : decode cX7_told 0 = .ok (.aload_n 0, 1) := by decide +kernel
theorem dX7_told_1 : decode cX7_told 1 = .ok (.getfield 66, 3) := by decide +kernel
theorem dX7_told_4 : decode cX7_told 4 = .ok (.bipush (-9), 2) := by decide +kernel
theorem dX7_told_6 : decode cX7_told 6 = .ok (.if_icmp .ne 18, 3) := by decide +kernel
theorem dX7_told_9 : decode cX7_told 9 = .ok (.aload_n 0, 1) := by decide +kernel
theorem dX7_told_10 : decode cX7_told 10 = .ok (.getfield 69, 3) := by decide +kernel
theorem dX7_told_13 : decode cX7_told 13 = .ok (.aload_n 0, 1) := by decide +kernel
theorem dX7_told_14 : decode cX7_told 14 = .ok (.getfield 62, 3) := by decide +kernel
theorem dX7_told_17 : decode cX7_told 17 = .ok (.if_icmp .ge 7, 3) := by decide +kernel
theorem dX7_told_20 : decode cX7_told 20 = .ok (.iconst 1, 1) := by decide +kernel
theorem dX7_told_21 : decode cX7_told 21 = .ok (.goto 4, 3) := by decide +kernel
theorem dX7_told_24 : decode cX7_told 24 = .ok (.iconst 0, 1) := by decide +kernel
theorem dX7_told_25 : decode cX7_told 25 = .ok (.istore_n 3, 1) := by decide +kernel
theorem dX7_told_26 : decode cX7_told 26 = .ok (.iload_n 3, 1) := by decide +kernel
theorem dX7_told_27 : decode cX7_told 27 = .ok (.ifCond .eq 17, 3) := by decide +kernel
theorem dX7_told_30 : decode cX7_told 30 = .ok (.aload_n 0, 1) := by decide +kernel
theorem dX7_told_31 : decode cX7_told 31 = .ok (.getfield 31, 3) := by decide +kernel
theorem dX7_told_34 : decode cX7_told 34 = .ok (.aload_n 0, 1) := by decide +kernel
theorem dX7_told_35 : decode cX7_told 35 = .ok (.getfield 69, 3) := by decide +kernel
theorem dX7_told_38 : decode cX7_told 38 = .ok (.iaload, 1) := by decide +kernel
theorem dX7_told_39 : decode cX7_told 39 = .ok (.iload_n 1, 1) := by decide +kernel
theorem dX7_told_40 : decode cX7_told 40 = .ok (.isub, 1) := by decide +kernel
theorem dX7_told_41 : decode cX7_told 41 = .ok (.goto 4, 3) := by decide +kernel
theorem dX7_told_44 : decode cX7_told 44 = .ok (.iconst 0, 1) := by decide +kernel
theorem dX7_told_45 : decode cX7_told 45 = .ok (.istore 4, 2) := by decide +kernel
theorem dX7_told_47 : decode cX7_told 47 = .ok (.iload_n 3, 1) := by decide +kernel
theorem dX7_told_48 : decode cX7_told 48 = .ok (.ifCond .eq 25, 3) := by decide +kernel
theorem dX7_told_51 : decode cX7_told 51 = .ok (.iload 4, 2) := by decide +kernel
theorem dX7_told_53 : decode cX7_told 53 = .ok (.i2l, 1) := by decide +kernel
theorem dX7_told_54 : decode cX7_told 54 = .ok (.lconst 0, 1) := by decide +kernel
theorem dX7_told_55 : decode cX7_told 55 = .ok (.ldc2_w 72, 3) := by decide +kernel
theorem dX7_told_58 : decode cX7_told 58 = .ok (.invokestatic 58, 3) := by decide +kernel
theorem dX7_told_61 : decode cX7_told 61 = .ok (.ifCond .eq 12, 3) := by decide +kernel
theorem dX7_told_64 : decode cX7_told 64 = .ok (.iload_n 2, 1) := by decide +kernel
theorem dX7_told_65 : decode cX7_told 65 = .ok (.iload 4, 2) := by decide +kernel
theorem dX7_told_67 : decode cX7_told 67 = .ok (.invokestatic 74, 3) := by decide +kernel
theorem dX7_told_70 : decode cX7_told 70 = .ok (.ifCond .ne 29, 3) := by decide +kernel
theorem dX7_told_73 : decode cX7_told 73 = .ok (.aload_n 0, 1) := by decide +kernel
theorem dX7_told_74 : decode cX7_told 74 = .ok (.aload_n 0, 1) := by decide +kernel
theorem dX7_told_75 : decode cX7_told 75 = .ok (.getfield 66, 3) := by decide +kernel
theorem dX7_told_78 : decode cX7_told 78 = .ok (.bipush (-9), 2) := by decide +kernel
theorem dX7_told_80 : decode cX7_told 80 = .ok (.if_icmp .ne 10, 3) := by decide +kernel
theorem dX7_told_83 : decode cX7_told 83 = .ok (.aload_n 0, 1) := by decide +kernel
theorem dX7_told_84 : decode cX7_told 84 = .ok (.getfield 69, 3) := by decide +kernel
theorem dX7_told_87 : decode cX7_told 87 = .ok (.goto 7, 3) := by decide +kernel
theorem dX7_told_90 : decode cX7_told 90 = .ok (.aload_n 0, 1) := by decide +kernel
theorem dX7_told_91 : decode cX7_told 91 = .ok (.getfield 66, 3) := by decide +kernel
theorem dX7_told_94 : decode cX7_told 94 = .ok (.putfield 66, 3) := by decide +kernel
theorem dX7_told_97 : decode cX7_told 97 = .ok (.iconst 0, 1) := by decide +kernel
theorem dX7_told_98 : decode cX7_told 98 = .ok (.ireturn, 1) := by decide +kernel
theorem dX7_told_99 : decode cX7_told 99 = .ok (.aload_n 0, 1) := by decide +kernel
theorem dX7_told_100 : decode cX7_told 100 = .ok (.dup, 1) := by decide +kernel
theorem dX7_told_101 : decode cX7_told 101 = .ok (.getfield 69, 3) := by decide +kernel
theorem dX7_told_104 : decode cX7_told 104 = .ok (.iconst 1, 1) := by decide +kernel
theorem dX7_told_105 : decode cX7_told 105 = .ok (.iadd, 1) := by decide +kernel
theorem dX7_told_106 : decode cX7_told 106 = .ok (.putfield 69, 3) := by decide +kernel
theorem dX7_told_109 : decode cX7_told 109 = .ok (.iload 4, 2) := by decide +kernel
theorem dX7_told_111 : decode cX7_told 111 = .ok (.ireturn, 1) := by decide +kernel
theorem dX7_readPart_0 : decode cX7_readPart 0 = .ok (.iconst 1, 1) := by decide +kernel
theorem dX7_readPart_1 : decode cX7_readPart 1 = .ok (.aload_n 0, 1) := by decide +kernel
theorem dX7_readPart_2 : decode cX7_readPart 2 = .ok (.getfield 78, 3) := by decide +kernel
theorem dX7_readPart_5 : decode cX7_readPart 5 = .ok (.ishl, 1) := by decide +kernel
theorem dX7_readPart_6 : decode cX7_readPart 6 = .ok (.iconst 1, 1) := by decide +kernel
theorem dX7_readPart_7 : decode cX7_readPart 7 = .ok (.isub, 1) := by decide +kernel
theorem dX7_readPart_8 : decode cX7_readPart 8 = .ok (.istore_n 2, 1) := by decide +kernel
theorem dX7_readPart_9 : decode cX7_readPart 9 = .ok (.iload_n 1, 1) := by decide +kernel
theorem dX7_readPart_10 : decode cX7_readPart 10 = .ok (.bipush 79, 2) := by decide +kernel
theorem dX7_readPart_12 : decode cX7_readPart 12 = .ok (.if_icmp .ne 51, 3) := by decide +kernel
theorem dX7_readPart_15 : decode cX7_readPart 15 = .ok (.aload_n 0, 1) := by decide +kernel
theorem dX7_readPart_16 : decode cX7_readPart 16 = .ok (.getfield 78, 3) := by decide +kernel
theorem dX7_readPart_19 : decode cX7_readPart 19 = .ok (.iconst 4, 1) := by decide +kernel
theorem dX7_readPart_20 : decode cX7_readPart 20 = .ok (.if_icmp .ge 43, 3) := by decide +kernel
theorem dX7_readPart_23 : decode cX7_readPart 23 = .ok (.aload_n 0, 1) := by decide +kernel
theorem dX7_readPart_24 : decode cX7_readPart 24 = .ok (.dup, 1) := by decide +kernel
theorem dX7_readPart_25 : decode cX7_readPart 25 = .ok (.getfield 69, 3) := by decide +kernel
theorem dX7_readPart_28 : decode cX7_readPart 28 = .ok (.iconst 1, 1) := by decide +kernel
theorem dX7_readPart_29 : decode cX7_readPart 29 = .ok (.iadd, 1) := by decide +kernel
theorem dX7_readPart_30 : decode cX7_readPart 30 = .ok (.putfield 69, 3) := by decide +kernel
theorem dX7_readPart_33 : decode cX7_readPart 33 = .ok (.aload_n 0, 1) := by decide +kernel
theorem dX7_readPart_34 : decode cX7_readPart 34 = .ok (.getfield 22, 3) := by decide +kernel
theorem dX7_readPart_37 : decode cX7_readPart 37 = .ok (.aload_n 0, 1) := by decide +kernel
theorem dX7_readPart_38 : decode cX7_readPart 38 = .ok (.getfield 78, 3) := by decide +kernel
theorem dX7_readPart_41 : decode cX7_readPart 41 = .ok (.aload_n 0, 1) := by decide +kernel
theorem dX7_readPart_42 : decode cX7_readPart 42 = .ok (.bipush 48, 2) := by decide +kernel
theorem dX7_readPart_44 : decode cX7_readPart 44 = .ok (.bipush 15, 2) := by decide +kernel
theorem dX7_readPart_46 : decode cX7_readPart 46 = .ok (.invokevirtual 94, 3) := by decide +kernel
theorem dX7_readPart_49 : decode cX7_readPart 49 = .ok (.iastore, 1) := by decide +kernel
theorem dX7_readPart_50 : decode cX7_readPart 50 = .ok (.aload_n 0, 1) := by decide +kernel
theorem dX7_readPart_51 : decode cX7_readPart 51 = .ok (.dup, 1) := by decide +kernel
theorem dX7_readPart_52 : decode cX7_readPart 52 = .ok (.getfield 78, 3) := by decide +kernel
theorem dX7_readPart_55 : decode cX7_readPart 55 = .ok (.iconst 1, 1) := by decide +kernel
theorem dX7_readPart_56 : decode cX7_readPart 56 = .ok (.iadd, 1) := by decide +kernel
theorem dX7_readPart_57 : decode cX7_readPart 57 = .ok (.putfield 78, 3) := by decide +kernel
theorem dX7_readPart_60 : decode cX7_readPart 60 = .ok (.goto 247, 3) := by decide +kernel
theorem dX7_readPart_63 : decode cX7_readPart 63 = .ok (.iload_n 1, 1) := by decide +kernel
theorem dX7_readPart_64 : decode cX7_readPart 64 = .ok (.bipush 82, 2) := by decide +kernel
theorem dX7_readPart_66 : decode cX7_readPart 66 = .ok (.if_icmp .ne 108, 3) := by decide +kernel
theorem dX7_readPart_69 : decode cX7_readPart 69 = .ok (.aload_n 0, 1) := by decide +kernel
theorem dX7_readPart_70 : decode cX7_readPart 70 = .ok (.getfield 78, 3) := by decide +kernel
theorem dX7_readPart_73 : decode cX7_readPart 73 = .ok (.ifCond .le 101, 3) := by decide +kernel
theorem dX7_readPart_76 : decode cX7_readPart 76 = .ok (.aload_n 0, 1) := by decide +kernel
theorem dX7_readPart_77 : decode cX7_readPart 77 = .ok (.getfield 81, 3) := by decide +kernel
theorem dX7_readPart_80 : decode cX7_readPart 80 = .ok (.bipush 15, 2) := by decide +kernel
theorem dX7_readPart_82 : decode cX7_readPart 82 = .ok (.if_icmp .eq 92, 3) := by decide +kernel
theorem dX7_readPart_85 : decode cX7_readPart 85 = .ok (.aload_n 0, 1) := by decide +kernel
theorem dX7_readPart_86 : decode cX7_readPart 86 = .ok (.dup, 1) := by decide +kernel
theorem dX7_readPart_87 : decode cX7_readPart 87 = .ok (.getfield 69, 3) := by decide +kernel
theorem dX7_readPart_90 : decode cX7_readPart 90 = .ok (.iconst 1, 1) := by decide +kernel
theorem dX7_readPart_91 : decode cX7_readPart 91 = .ok (.iadd, 1) := by decide +kernel
theorem dX7_readPart_92 : decode cX7_readPart 92 = .ok (.putfield 69, 3) := by decide +kernel
theorem dX7_readPart_95 : decode cX7_readPart 95 = .ok (.aload_n 0, 1) := by decide +kernel
theorem dX7_readPart_96 : decode cX7_readPart 96 = .ok (.bipush 48, 2) := by decide +kernel
theorem dX7_readPart_98 : decode cX7_readPart 98 = .ok (.bipush 15, 2) := by decide +kernel
theorem dX7_readPart_100 : decode cX7_readPart 100 = .ok (.aload_n 0, 1) := by decide +kernel
theorem dX7_readPart_101 : decode cX7_readPart 101 = .ok (.getfield 81, 3) := by decide +kernel
theorem dX7_readPart_104 : decode cX7_readPart 104 = .ok (.iconst (-1), 1) := by decide +kernel
theorem dX7_readPart_105 : decode cX7_readPart 105 = .ok (.ixor, 1) := by decide +kernel
theorem dX7_readPart_106 : decode cX7_readPart 106 = .ok (.iand, 1) := by decide +kernel
theorem dX7_readPart_107 : decode cX7_readPart 107 = .ok (.invokevirtual 94, 3) := by decide +kernel
theorem dX7_readPart_110 : decode cX7_readPart 110 = .ok (.istore_n 3, 1) := by decide +kernel
theorem dX7_readPart_111 : decode cX7_readPart 111 = .ok (.aload_n 0, 1) := by decide +kernel
theorem dX7_readPart_112 : decode cX7_readPart 112 = .ok (.bipush 48, 2) := by decide +kernel
theorem dX7_readPart_114 : decode cX7_readPart 114 = .ok (.iload_n 2, 1) := by decide +kernel
theorem dX7_readPart_115 : decode cX7_readPart 115 = .ok (.invokevirtual 94, 3) := by decide +kernel
theorem dX7_readPart_118 : decode cX7_readPart 118 = .ok (.istore 4, 2) := by decide +kernel
theorem dX7_readPart_120 : decode cX7_readPart 120 = .ok (.aload_n 0, 1) := by decide +kernel
theorem dX7_readPart_121 : decode cX7_readPart 121 = .ok (.getfield 25, 3) := by decide +kernel
theorem dX7_readPart_124 : decode cX7_readPart 124 = .ok (.iload_n 3, 1) := by decide +kernel
theorem dX7_readPart_125 : decode cX7_readPart 125 = .ok (.aload_n 0, 1) := by decide +kernel
theorem dX7_readPart_126 : decode cX7_readPart 126 = .ok (.getfield 66, 3) := by decide +kernel
theorem dX7_readPart_129 : decode cX7_readPart 129 = .ok (.bipush (-9), 2) := by decide +kernel
theorem dX7_readPart_131 : decode cX7_readPart 131 = .ok (.if_icmp .ne 8, 3) := by decide +kernel
theorem dX7_readPart_134 : decode cX7_readPart 134 = .ok (.iload 4, 2) := by decide +kernel
theorem dX7_readPart_136 : decode cX7_readPart 136 = .ok (.goto 9, 3) := by decide +kernel
theorem dX7_readPart_139 : decode cX7_readPart 139 = .ok (.aload_n 0, 1) := by decide +kernel
theorem dX7_readPart_140 : decode cX7_readPart 140 = .ok (.getfield 25, 3) := by decide +kernel
theorem dX7_readPart_143 : decode cX7_readPart 143 = .ok (.iload_n 3, 1) := by decide +kernel
theorem dX7_readPart_144 : decode cX7_readPart 144 = .ok (.iaload, 1) := by decide +kernel
theorem dX7_readPart_145 : decode cX7_readPart 145 = .ok (.iastore, 1) := by decide +kernel
theorem dX7_readPart_146 : decode cX7_readPart 146 = .ok (.aload_n 0, 1) := by decide +kernel
theorem dX7_readPart_147 : decode cX7_readPart 147 = .ok (.dup, 1) := by decide +kernel
theorem dX7_readPart_148 : decode cX7_readPart 148 = .ok (.getfield 81, 3) := by decide +kernel
theorem dX7_readPart_151 : decode cX7_readPart 151 = .ok (.aload_n 0, 1) := by decide +kernel
theorem dX7_readPart_152 : decode cX7_readPart 152 = .ok (.getfield 66, 3) := by decide +kernel
theorem dX7_readPart_155 : decode cX7_readPart 155 = .ok (.bipush (-9), 2) := by decide +kernel
theorem dX7_readPart_157 : decode cX7_readPart 157 = .ok (.if_icmp .ne 9, 3) := by decide +kernel
theorem dX7_readPart_160 : decode cX7_readPart 160 = .ok (.iconst 1, 1) := by decide +kernel
theorem dX7_readPart_161 : decode cX7_readPart 161 = .ok (.iload_n 3, 1) := by decide +kernel
theorem dX7_readPart_162 : decode cX7_readPart 162 = .ok (.ishl, 1) := by decide +kernel
theorem dX7_readPart_163 : decode cX7_readPart 163 = .ok (.goto 4, 3) := by decide +kernel
theorem dX7_readPart_166 : decode cX7_readPart 166 = .ok (.iconst 0, 1) := by decide +kernel
theorem dX7_readPart_167 : decode cX7_readPart 167 = .ok (.ior, 1) := by decide +kernel
theorem dX7_readPart_168 : decode cX7_readPart 168 = .ok (.putfield 81, 3) := by decide +kernel
theorem dX7_readPart_171 : decode cX7_readPart 171 = .ok (.goto 136, 3) := by decide +kernel
theorem dX7_readPart_174 : decode cX7_readPart 174 = .ok (.iload_n 1, 1) := by decide +kernel
theorem dX7_readPart_175 : decode cX7_readPart 175 = .ok (.bipush 72, 2) := by decide +kernel
theorem dX7_readPart_177 : decode cX7_readPart 177 = .ok (.if_icmp .ne 122, 3) := by decide +kernel
theorem dX7_readPart_180 : decode cX7_readPart 180 = .ok (.aload_n 0, 1) := by decide +kernel
theorem dX7_readPart_181 : decode cX7_readPart 181 = .ok (.getfield 78, 3) := by decide +kernel
theorem dX7_readPart_184 : decode cX7_readPart 184 = .ok (.ifCond .le 115, 3) := by decide +kernel
theorem dX7_readPart_187 : decode cX7_readPart 187 = .ok (.aload_n 0, 1) := by decide +kernel
theorem dX7_readPart_188 : decode cX7_readPart 188 = .ok (.getfield 84, 3) := by decide +kernel
theorem dX7_readPart_191 : decode cX7_readPart 191 = .ok (.iconst 5, 1) := by decide +kernel
theorem dX7_readPart_192 : decode cX7_readPart 192 = .ok (.if_icmp .ge 107, 3) := by decide +kernel
theorem dX7_readPart_195 : decode cX7_readPart 195 = .ok (.aload_n 0, 1) := by decide +kernel
theorem dX7_readPart_196 : decode cX7_readPart 196 = .ok (.dup, 1) := by decide +kernel
theorem dX7_readPart_197 : decode cX7_readPart 197 = .ok (.getfield 69, 3) := by decide +kernel
theorem dX7_readPart_200 : decode cX7_readPart 200 = .ok (.iconst 1, 1) := by decide +kernel
theorem dX7_readPart_201 : decode cX7_readPart 201 = .ok (.iadd, 1) := by decide +kernel
theorem dX7_readPart_202 : decode cX7_readPart 202 = .ok (.putfield 69, 3) := by decide +kernel
theorem dX7_readPart_205 : decode cX7_readPart 205 = .ok (.aload_n 0, 1) := by decide +kernel
theorem dX7_readPart_206 : decode cX7_readPart 206 = .ok (.bipush 97, 2) := by decide +kernel
theorem dX7_readPart_208 : decode cX7_readPart 208 = .ok (.ldc 98, 2) := by decide +kernel
theorem dX7_readPart_210 : decode cX7_readPart 210 = .ok (.aload_n 0, 1) := by decide +kernel
theorem dX7_readPart_211 : decode cX7_readPart 211 = .ok (.getfield 87, 3) := by decide +kernel
theorem dX7_readPart_214 : decode cX7_readPart 214 = .ok (.iconst (-1), 1) := by decide +kernel
theorem dX7_readPart_215 : decode cX7_readPart 215 = .ok (.ixor, 1) := by decide +kernel
theorem dX7_readPart_216 : decode cX7_readPart 216 = .ok (.iand, 1) := by decide +kernel
theorem dX7_readPart_217 : decode cX7_readPart 217 = .ok (.invokevirtual 94, 3) := by decide +kernel
theorem dX7_readPart_220 : decode cX7_readPart 220 = .ok (.istore_n 3, 1) := by decide +kernel
theorem dX7_readPart_221 : decode cX7_readPart 221 = .ok (.aload_n 0, 1) := by decide +kernel
theorem dX7_readPart_222 : decode cX7_readPart 222 = .ok (.getfield 28, 3) := by decide +kernel
theorem dX7_readPart_225 : decode cX7_readPart 225 = .ok (.iconst 3, 1) := by decide +kernel
theorem dX7_readPart_226 : decode cX7_readPart 226 = .ok (.aload_n 0, 1) := by decide +kernel
theorem dX7_readPart_227 : decode cX7_readPart 227 = .ok (.getfield 84, 3) := by decide +kernel
theorem dX7_readPart_230 : decode cX7_readPart 230 = .ok (.imul, 1) := by decide +kernel
theorem dX7_readPart_231 : decode cX7_readPart 231 = .ok (.iload_n 3, 1) := by decide +kernel
theorem dX7_readPart_232 : decode cX7_readPart 232 = .ok (.iastore, 1) := by decide +kernel
theorem dX7_readPart_233 : decode cX7_readPart 233 = .ok (.aload_n 0, 1) := by decide +kernel
theorem dX7_readPart_234 : decode cX7_readPart 234 = .ok (.getfield 28, 3) := by decide +kernel
theorem dX7_readPart_237 : decode cX7_readPart 237 = .ok (.iconst 3, 1) := by decide +kernel
theorem dX7_readPart_238 : decode cX7_readPart 238 = .ok (.aload_n 0, 1) := by decide +kernel
theorem dX7_readPart_239 : decode cX7_readPart 239 = .ok (.getfield 84, 3) := by decide +kernel
theorem dX7_readPart_242 : decode cX7_readPart 242 = .ok (.imul, 1) := by decide +kernel
theorem dX7_readPart_243 : decode cX7_readPart 243 = .ok (.iconst 1, 1) := by decide +kernel
theorem dX7_readPart_244 : decode cX7_readPart 244 = .ok (.iadd, 1) := by decide +kernel
theorem dX7_readPart_245 : decode cX7_readPart 245 = .ok (.aload_n 0, 1) := by decide +kernel
theorem dX7_readPart_246 : decode cX7_readPart 246 = .ok (.bipush 48, 2) := by decide +kernel
theorem dX7_readPart_248 : decode cX7_readPart 248 = .ok (.iload_n 2, 1) := by decide +kernel
theorem dX7_readPart_249 : decode cX7_readPart 249 = .ok (.invokevirtual 94, 3) := by decide +kernel
theorem dX7_readPart_252 : decode cX7_readPart 252 = .ok (.iastore, 1) := by decide +kernel
theorem dX7_readPart_253 : decode cX7_readPart 253 = .ok (.aload_n 0, 1) := by decide +kernel
theorem dX7_readPart_254 : decode cX7_readPart 254 = .ok (.getfield 28, 3) := by decide +kernel
theorem dX7_readPart_257 : decode cX7_readPart 257 = .ok (.iconst 3, 1) := by decide +kernel
theorem dX7_readPart_258 : decode cX7_readPart 258 = .ok (.aload_n 0, 1) := by decide +kernel
theorem dX7_readPart_259 : decode cX7_readPart 259 = .ok (.getfield 84, 3) := by decide +kernel
theorem dX7_readPart_262 : decode cX7_readPart 262 = .ok (.imul, 1) := by decide +kernel
theorem dX7_readPart_263 : decode cX7_readPart 263 = .ok (.iconst 2, 1) := by decide +kernel
theorem dX7_readPart_264 : decode cX7_readPart 264 = .ok (.iadd, 1) := by decide +kernel
theorem dX7_readPart_265 : decode cX7_readPart 265 = .ok (.aload_n 0, 1) := by decide +kernel
theorem dX7_readPart_266 : decode cX7_readPart 266 = .ok (.bipush 48, 2) := by decide +kernel
theorem dX7_readPart_268 : decode cX7_readPart 268 = .ok (.bipush 15, 2) := by decide +kernel
theorem dX7_readPart_270 : decode cX7_readPart 270 = .ok (.invokevirtual 94, 3) := by decide +kernel
theorem dX7_readPart_273 : decode cX7_readPart 273 = .ok (.iastore, 1) := by decide +kernel
theorem dX7_readPart_274 : decode cX7_readPart 274 = .ok (.aload_n 0, 1) := by decide +kernel
theorem dX7_readPart_275 : decode cX7_readPart 275 = .ok (.dup, 1) := by decide +kernel
theorem dX7_readPart_276 : decode cX7_readPart 276 = .ok (.getfield 87, 3) := by decide +kernel
theorem dX7_readPart_279 : decode cX7_readPart 279 = .ok (.iconst 1, 1) := by decide +kernel
theorem dX7_readPart_280 : decode cX7_readPart 280 = .ok (.iload_n 3, 1) := by decide +kernel
theorem dX7_readPart_281 : decode cX7_readPart 281 = .ok (.ishl, 1) := by decide +kernel
theorem dX7_readPart_282 : decode cX7_readPart 282 = .ok (.ior, 1) := by decide +kernel
theorem dX7_readPart_283 : decode cX7_readPart 283 = .ok (.putfield 87, 3) := by decide +kernel
theorem dX7_readPart_286 : decode cX7_readPart 286 = .ok (.aload_n 0, 1) := by decide +kernel
theorem dX7_readPart_287 : decode cX7_readPart 287 = .ok (.dup, 1) := by decide +kernel
theorem dX7_readPart_288 : decode cX7_readPart 288 = .ok (.getfield 84, 3) := by decide +kernel
theorem dX7_readPart_291 : decode cX7_readPart 291 = .ok (.iconst 1, 1) := by decide +kernel
theorem dX7_readPart_292 : decode cX7_readPart 292 = .ok (.iadd, 1) := by decide +kernel
theorem dX7_readPart_293 : decode cX7_readPart 293 = .ok (.putfield 84, 3) := by decide +kernel
theorem dX7_readPart_296 : decode cX7_readPart 296 = .ok (.goto 11, 3) := by decide +kernel
theorem dX7_readPart_299 : decode cX7_readPart 299 = .ok (.aload_n 0, 1) := by decide +kernel
theorem dX7_readPart_300 : decode cX7_readPart 300 = .ok (.aload_n 0, 1) := by decide +kernel
theorem dX7_readPart_301 : decode cX7_readPart 301 = .ok (.getfield 69, 3) := by decide +kernel
theorem dX7_readPart_304 : decode cX7_readPart 304 = .ok (.putfield 66, 3) := by decide +kernel
theorem dX7_readPart_307 : decode cX7_readPart 307 = .ok (.return_, 1) := by decide +kernel
theorem dX7_readText_0 : decode cX7_readText 0 = .ok (.aload_n 0, 1) := by decide +kernel
theorem dX7_readText_1 : decode cX7_readText 1 = .ok (.iconst 0, 1) := by decide +kernel
theorem dX7_readText_2 : decode cX7_readText 2 = .ok (.putfield 69, 3) := by decide +kernel
theorem dX7_readText_5 : decode cX7_readText 5 = .ok (.aload_n 0, 1) := by decide +kernel
theorem dX7_readText_6 : decode cX7_readText 6 = .ok (.bipush (-9), 2) := by decide +kernel
theorem dX7_readText_8 : decode cX7_readText 8 = .ok (.putfield 66, 3) := by decide +kernel
theorem dX7_readText_11 : decode cX7_readText 11 = .ok (.aload_n 0, 1) := by decide +kernel
theorem dX7_readText_12 : decode cX7_readText 12 = .ok (.iconst 0, 1) := by decide +kernel
theorem dX7_readText_13 : decode cX7_readText 13 = .ok (.putfield 78, 3) := by decide +kernel
theorem dX7_readText_16 : decode cX7_readText 16 = .ok (.aload_n 0, 1) := by decide +kernel
theorem dX7_readText_17 : decode cX7_readText 17 = .ok (.iconst 0, 1) := by decide +kernel
theorem dX7_readText_18 : decode cX7_readText 18 = .ok (.putfield 81, 3) := by decide +kernel
theorem dX7_readText_21 : decode cX7_readText 21 = .ok (.aload_n 0, 1) := by decide +kernel
theorem dX7_readText_22 : decode cX7_readText 22 = .ok (.iconst 0, 1) := by decide +kernel
theorem dX7_readText_23 : decode cX7_readText 23 = .ok (.putfield 84, 3) := by decide +kernel
theorem dX7_readText_26 : decode cX7_readText 26 = .ok (.aload_n 0, 1) := by decide +kernel
theorem dX7_readText_27 : decode cX7_readText 27 = .ok (.iconst 0, 1) := by decide +kernel
theorem dX7_readText_28 : decode cX7_readText 28 = .ok (.putfield 87, 3) := by decide +kernel
theorem dX7_readText_31 : decode cX7_readText 31 = .ok (.iconst 0, 1) := by decide +kernel
theorem dX7_readText_32 : decode cX7_readText 32 = .ok (.istore_n 1, 1) := by decide +kernel
theorem dX7_readText_33 : decode cX7_readText 33 = .ok (.iload_n 1, 1) := by decide +kernel
theorem dX7_readText_34 : decode cX7_readText 34 = .ok (.iconst 4, 1) := by decide +kernel
theorem dX7_readText_35 : decode cX7_readText 35 = .ok (.if_icmp .ge 17, 3) := by decide +kernel
theorem dX7_readText_38 : decode cX7_readText 38 = .ok (.aload_n 0, 1) := by decide +kernel
theorem dX7_readText_39 : decode cX7_readText 39 = .ok (.getfield 25, 3) := by decide +kernel
theorem dX7_readText_42 : decode cX7_readText 42 = .ok (.iload_n 1, 1) := by decide +kernel
theorem dX7_readText_43 : decode cX7_readText 43 = .ok (.bipush (-9), 2) := by decide +kernel
theorem dX7_readText_45 : decode cX7_readText 45 = .ok (.iastore, 1) := by decide +kernel
theorem dX7_readText_46 : decode cX7_readText 46 = .ok (.iinc 1 1, 3) := by decide +kernel
theorem dX7_readText_49 : decode cX7_readText 49 = .ok (.goto (-16), 3) := by decide +kernel
theorem dX7_readText_52 : decode cX7_readText 52 = .ok (.aload_n 0, 1) := by decide +kernel
theorem dX7_readText_53 : decode cX7_readText 53 = .ok (.getfield 62, 3) := by decide +kernel
theorem dX7_readText_56 : decode cX7_readText 56 = .ok (.ifCond .eq 14, 3) := by decide +kernel
theorem dX7_readText_59 : decode cX7_readText 59 = .ok (.aload_n 0, 1) := by decide +kernel
theorem dX7_readText_60 : decode cX7_readText 60 = .ok (.getfield 31, 3) := by decide +kernel
theorem dX7_readText_63 : decode cX7_readText 63 = .ok (.iconst 0, 1) := by decide +kernel
theorem dX7_readText_64 : decode cX7_readText 64 = .ok (.iaload, 1) := by decide +kernel
theorem dX7_readText_65 : decode cX7_readText 65 = .ok (.bipush 68, 2) := by decide +kernel
theorem dX7_readText_67 : decode cX7_readText 67 = .ok (.if_icmp .eq 5, 3) := by decide +kernel
theorem dX7_readText_70 : decode cX7_readText 70 = .ok (.iconst 0, 1) := by decide +kernel
theorem dX7_readText_71 : decode cX7_readText 71 = .ok (.ireturn, 1) := by decide +kernel
theorem dX7_readText_72 : decode cX7_readText 72 = .ok (.aload_n 0, 1) := by decide +kernel
theorem dX7_readText_73 : decode cX7_readText 73 = .ok (.iconst 1, 1) := by decide +kernel
theorem dX7_readText_74 : decode cX7_readText 74 = .ok (.putfield 69, 3) := by decide +kernel
theorem dX7_readText_77 : decode cX7_readText 77 = .ok (.aload_n 0, 1) := by decide +kernel
theorem dX7_readText_78 : decode cX7_readText 78 = .ok (.getfield 66, 3) := by decide +kernel
theorem dX7_readText_81 : decode cX7_readText 81 = .ok (.bipush (-9), 2) := by decide +kernel
theorem dX7_readText_83 : decode cX7_readText 83 = .ok (.if_icmp .ne 30, 3) := by decide +kernel
theorem dX7_readText_86 : decode cX7_readText 86 = .ok (.aload_n 0, 1) := by decide +kernel
theorem dX7_readText_87 : decode cX7_readText 87 = .ok (.getfield 69, 3) := by decide +kernel
theorem dX7_readText_90 : decode cX7_readText 90 = .ok (.aload_n 0, 1) := by decide +kernel
theorem dX7_readText_91 : decode cX7_readText 91 = .ok (.getfield 62, 3) := by decide +kernel
theorem dX7_readText_94 : decode cX7_readText 94 = .ok (.if_icmp .ge 19, 3) := by decide +kernel
theorem dX7_readText_97 : decode cX7_readText 97 = .ok (.aload_n 0, 1) := by decide +kernel
theorem dX7_readText_98 : decode cX7_readText 98 = .ok (.aload_n 0, 1) := by decide +kernel
theorem dX7_readText_99 : decode cX7_readText 99 = .ok (.getfield 31, 3) := by decide +kernel
theorem dX7_readText_102 : decode cX7_readText 102 = .ok (.aload_n 0, 1) := by decide +kernel
theorem dX7_readText_103 : decode cX7_readText 103 = .ok (.getfield 69, 3) := by decide +kernel
theorem dX7_readText_106 : decode cX7_readText 106 = .ok (.iaload, 1) := by decide +kernel
theorem dX7_readText_107 : decode cX7_readText 107 = .ok (.invokevirtual 90, 3) := by decide +kernel
theorem dX7_readText_110 : decode cX7_readText 110 = .ok (.goto (-33), 3) := by decide +kernel
theorem dX7_readText_113 : decode cX7_readText 113 = .ok (.aload_n 0, 1) := by decide +kernel
theorem dX7_readText_114 : decode cX7_readText 114 = .ok (.getfield 66, 3) := by decide +kernel
theorem dX7_readText_117 : decode cX7_readText 117 = .ok (.ireturn, 1) := by decide +kernel
theorem dX7_fault_0 : decode cX7_fault 0 = .ok (.aload_n 0, 1) := by decide +kernel
theorem dX7_fault_1 : decode cX7_fault 1 = .ok (.invokevirtual 99, 3) := by decide +kernel
theorem dX7_fault_4 : decode cX7_fault 4 = .ok (.ireturn, 1) := by decide +kernel
def wp_X7_in (p0 : Int64) (p1 : Int64) (p2 : Int64) (Q : Int32 → Prop) : Prop := (((lg_cmp p0 p1) < 0 → Q (0 : Int32)) ∧ (¬ (lg_cmp p0 p1) < 0 → ((0 < (lg_cmp p0 p2) → Q (0 : Int32)) ∧ (¬ 0 < (lg_cmp p0 p2) → Q (1 : Int32)))))
set_option maxHeartbeats 4000000 in
set_option maxRecDepth 100000 in
theorem c_X7_in (l : Launch) (D : va_G) (cI cZ cW : ClassId)  (p0 : Int64) (p1 : Int64) (p2 : Int64) (Q : Int32 → Prop) (hf : wp_X7_in p0 p1 p2 Q) : Met l yX7_in (wsA yX7_in cX7_in 6 (some .boolean)) ({ frames := 0, cells := 0, slots := 0, locals := 0 }) (PR D cI cZ cW [.long p0, .long p1, .long p2] ([] : va_W)) (vp_Si Q) 0 0 (fun _ => False) := by
  refine Met.ofW (cc := cX7_in) (maxL := 6) (ret := (some .boolean)) (by decide) rfl ?_
  intro p e s m args below meth c s₁ B hml hv
  obtain ⟨rfl, hP, hK⟩ := hv
  have hx := B.exec
  have hb := B.bytes
  have hr := B.returns
  have hts := atoms_spec (ws := (wsA yX7_in cX7_in 6 (some .boolean))) B.pre
  have ht : ∀ w ∈ lw_g, w.before _ s = true := fun w h => hts w (List.mem_cons_of_mem _ h)
  have hown : s.vm.findClass RX7 = some m.cls := findClass_of_methodNamed B.named
  have hlocks := B.notSynchronized
  have hl := lv_entry ([.long p0, .long p1, .long p2]) (n := 6) (Nat.le_of_ble_eq_true rfl)
  rw [lg_entry_eq]
  generalize (lg_sl ([.long p0, .long p1, .long p2]) ++ List.replicate (6 - (lg_sl ([.long p0, .long p1, .long p2])).length) Slot.unset).toArray = ls at hl ⊢
  have hl : lv_has ls 6 [(0, .long p0), (2, .long p1), (4, .long p2)] := hl
  unfold wp_X7_in at hf
  refine lv_lload_n hx hb dX7_in_0 rfl (lv_at hl 0 rfl) ?_
  refine lv_lload_n hx hb dX7_in_1 rfl (lv_at hl 1 rfl) ?_
  refine W.lcmp hx hb dX7_in_2 ?_
  refine lv_if_lt (tgt := 17) hx hb dX7_in_3 (by decide) (fun c_1 => ?_) (fun c_1 => ?_)
  · have hf := hf.1 c_1
    refine lv_iconst (v := (0 : Int32)) hx hb dX7_in_17 (by decide) ?_
    exact W.zret (v := (0 : Int32)) hx hb hr rfl (fun t ht hW => ⟨(0 : Int32), rfl, hf, ht⟩) (fun q h => absurd h List.not_mem_nil) dX7_in_18
  · have hf := hf.2 c_1
    refine lv_lload_n hx hb dX7_in_6 rfl (lv_at hl 0 rfl) ?_
    refine lv_lload hx hb dX7_in_7 (lv_at hl 2 rfl) ?_
    refine W.lcmp hx hb dX7_in_9 ?_
    refine lv_if_gt (tgt := 17) hx hb dX7_in_10 (by decide) (fun c_2 => ?_) (fun c_2 => ?_)
    · have hf := hf.1 c_2
      refine lv_iconst (v := (0 : Int32)) hx hb dX7_in_17 (by decide) ?_
      exact W.zret (v := (0 : Int32)) hx hb hr rfl (fun t ht hW => ⟨(0 : Int32), rfl, hf, ht⟩) (fun q h => absurd h List.not_mem_nil) dX7_in_18
    · have hf := hf.2 c_2
      refine lv_iconst (v := (1 : Int32)) hx hb dX7_in_13 (by decide) ?_
      refine lv_goto (tgt := 18) hx hb dX7_in_14 (by decide) ?_
      exact W.zret (v := (1 : Int32)) hx hb hr rfl (fun t ht hW => ⟨(1 : Int32), rfl, hf, ht⟩) (fun q h => absurd h List.not_mem_nil) dX7_in_18
def wp_X7_has (p0 : Int32) (p1 : Int32) (Q : Int32 → Prop) : Prop := ((¬ ((p0 >>> (p1 &&& 31)) &&& (1 : Int32)) = (1 : Int32) → Q (0 : Int32)) ∧ (((p0 >>> (p1 &&& 31)) &&& (1 : Int32)) = (1 : Int32) → Q (1 : Int32)))
set_option maxHeartbeats 4000000 in
set_option maxRecDepth 100000 in
theorem c_X7_has (l : Launch) (D : va_G) (cI cZ cW : ClassId)  (p0 : Int32) (p1 : Int32) (Q : Int32 → Prop) (hf : wp_X7_has p0 p1 Q) : Met l yX7_has (wsA yX7_has cX7_has 2 (some .boolean)) ({ frames := 0, cells := 0, slots := 0, locals := 0 }) (PR D cI cZ cW [.int p0, .int p1] ([] : va_W)) (vp_Si Q) 0 0 (fun _ => False) := by
  refine Met.ofW (cc := cX7_has) (maxL := 2) (ret := (some .boolean)) (by decide) rfl ?_
  intro p e s m args below meth c s₁ B hml hv
  obtain ⟨rfl, hP, hK⟩ := hv
  have hx := B.exec
  have hb := B.bytes
  have hr := B.returns
  have hts := atoms_spec (ws := (wsA yX7_has cX7_has 2 (some .boolean))) B.pre
  have ht : ∀ w ∈ lw_g, w.before _ s = true := fun w h => hts w (List.mem_cons_of_mem _ h)
  have hown : s.vm.findClass RX7 = some m.cls := findClass_of_methodNamed B.named
  have hlocks := B.notSynchronized
  have hl := lv_entry ([.int p0, .int p1]) (n := 2) (Nat.le_of_ble_eq_true rfl)
  rw [lg_entry_eq]
  generalize (lg_sl ([.int p0, .int p1]) ++ List.replicate (2 - (lg_sl ([.int p0, .int p1])).length) Slot.unset).toArray = ls at hl ⊢
  have hl : lv_has ls 2 [(0, .int p0), (1, .int p1)] := hl
  unfold wp_X7_has at hf
  refine lv_iload_n hx hb dX7_has_0 rfl (lv_at hl 0 rfl) ?_
  refine lv_iload_n hx hb dX7_has_1 rfl (lv_at hl 1 rfl) ?_
  refine lv_ishr hx hb dX7_has_2 ?_
  refine lv_iconst (v := (1 : Int32)) hx hb dX7_has_3 (by decide) ?_
  refine lv_iand hx hb dX7_has_4 ?_
  refine lv_iconst (v := (1 : Int32)) hx hb dX7_has_5 (by decide) ?_
  refine lv_icmp_ne (tgt := 13) hx hb dX7_has_6 (by decide) (fun c_1 => ?_) (fun c_1 => ?_)
  · have hf := hf.1 c_1
    refine lv_iconst (v := (0 : Int32)) hx hb dX7_has_13 (by decide) ?_
    exact W.zret (v := (0 : Int32)) hx hb hr rfl (fun t ht hW => ⟨(0 : Int32), rfl, hf, ht⟩) (fun q h => absurd h List.not_mem_nil) dX7_has_14
  · have hf := hf.2 c_1
    refine lv_iconst (v := (1 : Int32)) hx hb dX7_has_9 (by decide) ?_
    refine lv_goto (tgt := 14) hx hb dX7_has_10 (by decide) ?_
    exact W.zret (v := (1 : Int32)) hx hb hr rfl (fun t ht hW => ⟨(1 : Int32), rfl, hf, ht⟩) (fun q h => absurd h List.not_mem_nil) dX7_has_14
def LB_X7_ones_4 (G4 : (Int32 × Int32 × Int32) → Prop)  (x0 : Int32) (x1 : Int32) (x2 : Int32) (Q : Int32 → Prop) : Prop := (((20 : Int32) ≤ x2 → Q x1) ∧ (¬ (20 : Int32) ≤ x2 → ∀ x1_2 : Int32, x1_2 = (x1 + ((x0 >>> (x2 &&& 31)) &&& (1 : Int32))) → ∀ x2_3 : Int32, x2_3 = x2 + (1 : Int32) → G4 (x0, x1_2, x2_3)))
def B_X7_ones_4  (x0 : Int32) (x1 : Int32) (x2 : Int32) (Q : Int32 → Prop) : Prop := LOOP (fun (G4 : (Int32 × Int32 × Int32) → Prop) z => LB_X7_ones_4 G4  z.1 z.2.1 z.2.2 Q) (x0, x1, x2)
def wp_X7_ones (p0 : Int32) (Q : Int32 → Prop) : Prop := B_X7_ones_4  p0 (0 : Int32) (0 : Int32) Q
set_option maxHeartbeats 4000000 in
set_option maxRecDepth 100000 in
theorem c_X7_ones (l : Launch) (D : va_G) (cI cZ cW : ClassId)  (p0 : Int32) (Q : Int32 → Prop) (hf : wp_X7_ones p0 Q) : Met l yX7_ones (wsA yX7_ones cX7_ones 3 (some .int)) ({ frames := 0, cells := 0, slots := 0, locals := 0 }) (PR D cI cZ cW [.int p0] ([] : va_W)) (vp_Si Q) 0 0 (fun _ => False) := by
  refine Met.ofW (cc := cX7_ones) (maxL := 3) (ret := (some .int)) (by decide) rfl ?_
  intro p e s m args below meth c s₁ B hml hv
  obtain ⟨rfl, hP, hK⟩ := hv
  have hx := B.exec
  have hb := B.bytes
  have hr := B.returns
  have hts := atoms_spec (ws := (wsA yX7_ones cX7_ones 3 (some .int))) B.pre
  have ht : ∀ w ∈ lw_g, w.before _ s = true := fun w h => hts w (List.mem_cons_of_mem _ h)
  have hown : s.vm.findClass RX7 = some m.cls := findClass_of_methodNamed B.named
  have hlocks := B.notSynchronized
  have hl := lv_entry ([.int p0]) (n := 3) (Nat.le_of_ble_eq_true rfl)
  rw [lg_entry_eq]
  generalize (lg_sl ([.int p0]) ++ List.replicate (3 - (lg_sl ([.int p0])).length) Slot.unset).toArray = ls at hl ⊢
  have hl : lv_has ls 3 [(0, .int p0)] := hl
  unfold wp_X7_ones at hf
  have k_4 : ∀ (x0 : Int32) (x1 : Int32) (x2 : Int32) (ls : Array Slot), B_X7_ones_4  x0 x1 x2 Q → lv_has ls 3 [(0, .int x0), (1, .int x1), (2, .int x2)] → W p l e (headSpec (wsA yX7_ones cX7_ones 3 (some .int)) ({ frames := 0, cells := 0, slots := 0, locals := 0 })).room s m (#[.int p0] : Array Value) below meth c s.heap [] 0 0 (MQ below (vp_Si Q) (#[.int p0] : Array Value) s 0 0 (fun _ => False)) (F0 m 4 ls []) := by
    intro x0 x1 x2 ls hf hl
    unfold B_X7_ones_4 at hf
    obtain ⟨I_4, ⟨n0_4, hI0_4⟩, hst_4⟩ := hf
    have main_4 : ∀ (n : Nat) (x0 : Int32) (x1 : Int32) (x2 : Int32) (ls : Array Slot), I_4 n (x0, x1, x2) → lv_has ls 3 [(0, .int x0), (1, .int x1), (2, .int x2)] → W p l e (headSpec (wsA yX7_ones cX7_ones 3 (some .int)) ({ frames := 0, cells := 0, slots := 0, locals := 0 })).room s m (#[.int p0] : Array Value) below meth c s.heap [] 0 0 (MQ below (vp_Si Q) (#[.int p0] : Array Value) s 0 0 (fun _ => False)) (F0 m 4 ls []) := by
      intro n
      induction n using Nat.strongRecOn with
      | _ n_4 ih_4 =>
      intro x0 x1 x2 ls hI hl
      have hf : LB_X7_ones_4 (fun z => ∃ k, k < n_4 ∧ I_4 k z)  x0 x1 x2 Q := hst_4 n_4 (x0, x1, x2) hI
      have hG_4 : ∀ (x0 : Int32) (x1 : Int32) (x2 : Int32) (ls : Array Slot), (∃ k, k < n_4 ∧ I_4 k (x0, x1, x2)) → lv_has ls 3 [(0, .int x0), (1, .int x1), (2, .int x2)] → W p l e (headSpec (wsA yX7_ones cX7_ones 3 (some .int)) ({ frames := 0, cells := 0, slots := 0, locals := 0 })).room s m (#[.int p0] : Array Value) below meth c s.heap [] 0 0 (MQ below (vp_Si Q) (#[.int p0] : Array Value) s 0 0 (fun _ => False)) (F0 m 4 ls []) := by
        rintro x0 x1 x2 ls ⟨k, hk, hI⟩ hl
        exact ih_4 k hk x0 x1 x2 ls hI hl
      unfold LB_X7_ones_4 at hf
      refine lv_iload_n hx hb dX7_ones_4 rfl (lv_at hl 2 rfl) ?_
      refine lv_bipush (v := (20 : Int32)) hx hb dX7_ones_5 (by decide) ?_
      refine lv_icmp_ge (tgt := 24) hx hb dX7_ones_7 (by decide) (fun c_1 => ?_) (fun c_1 => ?_)
      · have hf := hf.1 c_1
        refine lv_iload_n hx hb dX7_ones_24 rfl (lv_at hl 1 rfl) ?_
        exact W.iret (v := x1) hx hb hr (fun t ht hW => ⟨x1, rfl, hf, ht⟩) (fun q h => absurd h List.not_mem_nil) dX7_ones_25
      · have hf := hf.2 c_1
        refine lv_iload_n hx hb dX7_ones_10 rfl (lv_at hl 1 rfl) ?_
        refine lv_iload_n hx hb dX7_ones_11 rfl (lv_at hl 0 rfl) ?_
        refine lv_iload_n hx hb dX7_ones_12 rfl (lv_at hl 2 rfl) ?_
        refine lv_ishr hx hb dX7_ones_13 ?_
        refine lv_iconst (v := (1 : Int32)) hx hb dX7_ones_14 (by decide) ?_
        refine lv_iand hx hb dX7_ones_15 ?_
        refine lv_iadd hx hb dX7_ones_16 ?_
        refine lv_topi (fun x1_2 ex1_2 => ?_)
        have hf := hf x1_2 ex1_2
        refine lv_istore_n (lv' := [(1, .int x1_2), (0, .int x0), (2, .int x2)]) hx hb dX7_ones_17 rfl hl (by decide) rfl (fun ls hl => ?_)
        obtain ⟨x2_3, ex2_3⟩ : ∃ y : Int32, y = x2 + (1 : Int32) := ⟨_, rfl⟩
        have hf := hf x2_3 ex2_3
        refine lv_iinc (v := x2_3) (lv' := [(2, .int x2_3), (1, .int x1_2), (0, .int x0)]) hx hb dX7_ones_18 hl (k := 2) rfl (by rw [ex2_3]; rfl) (by decide) rfl (fun ls hl => ?_)
        refine lv_goto (tgt := 4) hx hb dX7_ones_21 (by decide) ?_
        exact hG_4 x0 x1_2 x2_3 ls hf (lv_sub hl [2, 1, 0] rfl)
    exact main_4 n0_4 x0 x1 x2 ls hI0_4 hl
  refine lv_iconst (v := (0 : Int32)) hx hb dX7_ones_0 (by decide) ?_
  refine lv_istore_n (lv' := [(1, .int (0 : Int32)), (0, .int p0)]) hx hb dX7_ones_1 rfl hl (by decide) rfl (fun ls hl => ?_)
  refine lv_iconst (v := (0 : Int32)) hx hb dX7_ones_2 (by decide) ?_
  refine lv_istore_n (lv' := [(2, .int (0 : Int32)), (1, .int (0 : Int32)), (0, .int p0)]) hx hb dX7_ones_3 rfl hl (by decide) rfl (fun ls hl => ?_)
  exact k_4 p0 (0 : Int32) (0 : Int32) ls hf (lv_sub hl [2, 1, 0] rfl)
def wp_X7_write (p0 : Int32) (s0 : CS) (Q : Int32 → CS → Prop) : Prop := wp_X7_in (p0.toInt64) (0 : Int64) (255 : Int64) (fun r_1 => ((¬ r_1 = 0 → ((¬ (s0.1 14) = (48 : Int32) → vp_in (s0.1 14) 48 ∧ ∀ s0_5 : CS, s0_5 = sA s0 13 (s0.1 14).toNatClampNeg p0 → ∀ s0_6 : CS, s0_6 = sI s0_5 14 ((s0_5.1 14) + (1 : Int32)) → Q (s0_6.1 14) s0_6) ∧ ((s0.1 14) = (48 : Int32) → Q (-4 : Int32) s0))) ∧ (r_1 = 0 → Q (-2 : Int32) s0)))
set_option maxHeartbeats 4000000 in
set_option maxRecDepth 100000 in
theorem c_X7_write (l : Launch) (D : va_G) (cI cZ cW : ClassId) (q0 : Nat → Nat) (sz : Nat) (p0 : Int32) (s0 : CS) (Q : Int32 → CS → Prop) (hf : wp_X7_write p0 s0 Q) : Met l yX7_write (wsA yX7_write cX7_write 2 (some .int)) ({ frames := 1, cells := 0, slots := 0, locals := 25 }) (PW D cI cZ cW [.ref (q0 0), .int p0] (wM cI cZ q0 s0) sz) (va_Qi (fun (r : Int32) (u : CS) => Q r u) (fun u t => va_P D classes (wM cI cZ q0 u) t.heap) (va_A (wM cI cZ q0 s0) sz)) 0 0 (va_A (wM cI cZ q0 s0) sz) := by
  refine Met.ofW (cc := cX7_write) (maxL := 2) (ret := (some .int)) (by decide) rfl ?_
  intro p e s m args below meth c s₁ B hml hv
  obtain ⟨rfl, hsz, hP, hK, hD0⟩ := hv
  have hx := B.exec
  have hb := B.bytes
  have hr := B.returns
  have hts := atoms_spec (ws := (wsA yX7_write cX7_write 2 (some .int))) B.pre
  have ht : ∀ w ∈ lw_g, w.before _ s = true := fun w h => hts w (List.mem_cons_of_mem _ h)
  have hown : s.vm.findClass RX7 = some m.cls := findClass_of_methodNamed B.named
  have hlocks := B.notSynchronized
  subst hsz
  have hD := hD0.self (sz := s.heap.size)
  generalize hAe : va_A (wM cI cZ q0 s0) s.heap.size = A at hD ⊢
  have hA : ∀ q : Nat, s.heap.size ≤ q → A q := fun q h => by rw [← hAe]; exact Or.inr h
  have hS : va_S A s.heap s.heap [] := va_S.rf
  have hDk : ∀ w : CS, va_D A (wM cI cZ q0 w) := fun w => D_M hD
  have hl := lv_entry ([.ref (q0 0), .int p0]) (n := 2) (Nat.le_of_ble_eq_true rfl)
  rw [lg_entry_eq]
  generalize (lg_sl ([.ref (q0 0), .int p0]) ++ List.replicate (2 - (lg_sl ([.ref (q0 0), .int p0])).length) Slot.unset).toArray = ls at hl ⊢
  have hl : lv_has ls 2 [(0, .ref (q0 0)), (1, .int p0)] := hl
  unfold wp_X7_write at hf
  have start : ∀ (H : Heap) (locs : List Loc), va_P D classes (wM cI cZ q0 s0) H → va_D A (wM cI cZ q0 s0) → va_S A s.heap H locs → W p l e (headSpec (wsA yX7_write cX7_write 2 (some .int)) ({ frames := 1, cells := 0, slots := 0, locals := 25 })).room s m (#[.ref (q0 0), .int p0] : Array Value) below meth c H locs 0 0 (MQ below (va_Qi (fun (r : Int32) (u : CS) => Q r u) (fun u t => va_P D classes (wM cI cZ q0 u) t.heap) A) (#[.ref (q0 0), .int p0] : Array Value) s 0 0 A) (F0 m 0 ls []) := by
    intro H locs hP hD hS
    refine lv_iload_n hx hb dX7_write_0 rfl (lv_at hl 1 rfl) ?_
    refine lv_i2l (v := p0.toInt64) hx hb dX7_write_1 rfl ?_
    refine lv_lconst (v := (0 : Int64)) hx hb dX7_write_2 (by decide) ?_
    refine lv_ldc2 (v := (255 : Int64)) hx hb hown (ht _ tw_744) dX7_write_3 ?_
    have hPc : va_P D classes ([] : va_W) H := hP.sub [] rfl
    refine vp_callSi (W.runS (As := [.long p0.toInt64, .long (0 : Int64), .long (255 : Int64)]) (rest := []) ⟨hx, hb, hml, hown, hts⟩ (c_X7_in l D cI cZ cW  (p0.toInt64) (0 : Int64) (255 : Int64) _ hf) ⟨callB_of 3 hts (gA tw_747) rfl rfl rfl (ht _ tw_7) (ht _ tw_745) hd_X7_in ⟨Nat.le_of_ble_eq_true rfl, Nat.le_of_ble_eq_true rfl⟩, ht _ tw_746⟩ ⟨PR_blind, fun U hU hW => PR_mk hPc hK hU hW⟩ rfl rfl hl.1 rfl (lv_room (Nat.le_of_ble_eq_true rfl)) dX7_write_6 ⟨Nat.zero_le _, Nat.zero_le _⟩) (fun r_1 hf => ?_)
    refine lv_if_ne (tgt := 15) hx hb dX7_write_9 (by decide) (fun c_2 => ?_) (fun c_2 => ?_)
    · have hf := hf.1 c_2
      refine lv_aload_n hx hb dX7_write_15 rfl (lv_at hl 0 rfl) ?_
      refine va_get (D := D) (ci := 5) (v := .int (s0.1 14)) (C := RX7) (T := TX7) (N := 28) hx hb ht inX7 hown hK hP 0 eM_0 rfl 14 (by decide) (ht _ tw_669) (fun _ h9 => h9) rfl dX7_write_16 ?_
      refine lv_bipush (v := (48 : Int32)) hx hb dX7_write_19 (by decide) ?_
      refine lv_icmp_ne (tgt := 27) hx hb dX7_write_21 (by decide) (fun c_3 => ?_) (fun c_3 => ?_)
      · have hf := hf.1 c_3
        refine lv_aload_n hx hb dX7_write_27 rfl (lv_at hl 0 rfl) ?_
        refine va_get (D := D) (ci := 5) (v := .ref (q0 8)) (C := RX7) (T := TX7) (N := 28) hx hb ht inX7 hown hK hP 0 eM_0 rfl 13 (by decide) (ht _ tw_668) (fun _ h9 => h9) rfl dX7_write_28 ?_
        refine lv_aload_n hx hb dX7_write_31 rfl (lv_at hl 0 rfl) ?_
        refine va_get (D := D) (ci := 5) (v := .int (s0.1 14)) (C := RX7) (T := TX7) (N := 28) hx hb ht inX7 hown hK hP 0 eM_0 rfl 14 (by decide) (ht _ tw_669) (fun _ h9 => h9) rfl dX7_write_32 ?_
        refine lv_iload_n hx hb dX7_write_35 rfl (lv_at hl 1 rfl) ?_
        obtain ⟨hi_4, hf⟩ := hf
        refine va_iast hx hb hK hP hD hS 8 0 eM_8 rfl hi_4 dX7_write_36 (fun H locs hP hD hS => ?_)
        obtain ⟨s0_5, es0_5⟩ : ∃ y : CS, y = sA s0 13 (s0.1 14).toNatClampNeg p0 := ⟨_, rfl⟩
        have hf := hf s0_5 es0_5
        have hD := hDk s0_5
        have hP : va_P D classes (wM cI cZ q0 s0_5) H := by rw [es0_5]; exact PM_F13 hP
        refine lv_aload_n hx hb dX7_write_37 rfl (lv_at hl 0 rfl) ?_
        refine lv_dup hx hb dX7_write_38 rfl ?_
        refine va_get (D := D) (ci := 5) (v := .int (s0_5.1 14)) (C := RX7) (T := TX7) (N := 28) hx hb ht inX7 hown hK hP 0 eM_0 rfl 14 (by decide) (ht _ tw_669) (fun _ h9 => h9) rfl dX7_write_39 ?_
        refine lv_iconst (v := (1 : Int32)) hx hb dX7_write_42 (by decide) ?_
        refine lv_iadd hx hb dX7_write_43 ?_
        refine va_put (D := D) (ci := 5) (v := .int ((s0_5.1 14) + (1 : Int32))) (ty := .int) (C := RX7) (T := TX7) (N := 28) hx hb ht inX7 tyX7 tyX7_ok nmX7 hown hK hP hD hS 0 eM_0 rfl 14 (by decide) (ht _ tw_669) (fun _ h9 => h9) rfl pf_I rfl rfl (Nat.le_of_ble_eq_true rfl) dX7_write_44 (fun H locs hP hD hS => ?_)
        obtain ⟨s0_6, es0_6⟩ : ∃ y : CS, y = sI s0_5 14 ((s0_5.1 14) + (1 : Int32)) := ⟨_, rfl⟩
        have hf := hf s0_6 es0_6
        have hD := hDk s0_6
        have hP : va_P D classes (wM cI cZ q0 s0_6) H := by rw [es0_6]; exact PM_I14 hP
        refine lv_aload_n hx hb dX7_write_47 rfl (lv_at hl 0 rfl) ?_
        refine va_get (D := D) (ci := 5) (v := .int (s0_6.1 14)) (C := RX7) (T := TX7) (N := 28) hx hb ht inX7 hown hK hP 0 eM_0 rfl 14 (by decide) (ht _ tw_669) (fun _ h9 => h9) rfl dX7_write_48 ?_
        exact W.iret (v := (s0_6.1 14)) hx hb hr (fun t ht hW => ⟨⟨(s0_6.1 14), s0_6, rfl, hf, P_heap ht hP⟩, hS.F ht⟩) hS.2.2 dX7_write_51
      · have hf := hf.2 c_3
        refine lv_bipush (v := (-4 : Int32)) hx hb dX7_write_24 (by decide) ?_
        exact W.iret (v := (-4 : Int32)) hx hb hr (fun t ht hW => ⟨⟨(-4 : Int32), s0, rfl, hf, P_heap ht hP⟩, hS.F ht⟩) hS.2.2 dX7_write_26
    · have hf := hf.2 c_2
      refine lv_bipush (v := (-2 : Int32)) hx hb dX7_write_12 (by decide) ?_
      exact W.iret (v := (-2 : Int32)) hx hb hr (fun t ht hW => ⟨⟨(-2 : Int32), s0, rfl, hf, P_heap ht hP⟩, hS.F ht⟩) hS.2.2 dX7_write_14
  exact start s.heap [] hP hD hS
def wp_X7_wipe (s0 : CS) (Q : Int32 → CS → Prop) : Prop := ∀ x1_1 : Int32, x1_1 = (s0.1 14) → ∀ s0_2 : CS, s0_2 = sI s0 14 (0 : Int32) → Q x1_1 s0_2
set_option maxHeartbeats 4000000 in
set_option maxRecDepth 100000 in
theorem c_X7_wipe (l : Launch) (D : va_G) (cI cZ cW : ClassId) (q0 : Nat → Nat) (sz : Nat) (s0 : CS) (Q : Int32 → CS → Prop) (hf : wp_X7_wipe s0 Q) : Met l yX7_wipe (wsA yX7_wipe cX7_wipe 2 (some .int)) ({ frames := 0, cells := 0, slots := 0, locals := 0 }) (PW D cI cZ cW [.ref (q0 0)] (wM cI cZ q0 s0) sz) (va_Qi (fun (r : Int32) (u : CS) => Q r u) (fun u t => va_P D classes (wM cI cZ q0 u) t.heap) (va_A (wM cI cZ q0 s0) sz)) 0 0 (va_A (wM cI cZ q0 s0) sz) := by
  refine Met.ofW (cc := cX7_wipe) (maxL := 2) (ret := (some .int)) (by decide) rfl ?_
  intro p e s m args below meth c s₁ B hml hv
  obtain ⟨rfl, hsz, hP, hK, hD0⟩ := hv
  have hx := B.exec
  have hb := B.bytes
  have hr := B.returns
  have hts := atoms_spec (ws := (wsA yX7_wipe cX7_wipe 2 (some .int))) B.pre
  have ht : ∀ w ∈ lw_g, w.before _ s = true := fun w h => hts w (List.mem_cons_of_mem _ h)
  have hown : s.vm.findClass RX7 = some m.cls := findClass_of_methodNamed B.named
  have hlocks := B.notSynchronized
  subst hsz
  have hD := hD0.self (sz := s.heap.size)
  generalize hAe : va_A (wM cI cZ q0 s0) s.heap.size = A at hD ⊢
  have hA : ∀ q : Nat, s.heap.size ≤ q → A q := fun q h => by rw [← hAe]; exact Or.inr h
  have hS : va_S A s.heap s.heap [] := va_S.rf
  have hDk : ∀ w : CS, va_D A (wM cI cZ q0 w) := fun w => D_M hD
  have hl := lv_entry ([.ref (q0 0)]) (n := 2) (Nat.le_of_ble_eq_true rfl)
  rw [lg_entry_eq]
  generalize (lg_sl ([.ref (q0 0)]) ++ List.replicate (2 - (lg_sl ([.ref (q0 0)])).length) Slot.unset).toArray = ls at hl ⊢
  have hl : lv_has ls 2 [(0, .ref (q0 0))] := hl
  unfold wp_X7_wipe at hf
  have start : ∀ (H : Heap) (locs : List Loc), va_P D classes (wM cI cZ q0 s0) H → va_D A (wM cI cZ q0 s0) → va_S A s.heap H locs → W p l e (headSpec (wsA yX7_wipe cX7_wipe 2 (some .int)) ({ frames := 0, cells := 0, slots := 0, locals := 0 })).room s m (#[.ref (q0 0)] : Array Value) below meth c H locs 0 0 (MQ below (va_Qi (fun (r : Int32) (u : CS) => Q r u) (fun u t => va_P D classes (wM cI cZ q0 u) t.heap) A) (#[.ref (q0 0)] : Array Value) s 0 0 A) (F0 m 0 ls []) := by
    intro H locs hP hD hS
    refine lv_aload_n hx hb dX7_wipe_0 rfl (lv_at hl 0 rfl) ?_
    refine va_get (D := D) (ci := 5) (v := .int (s0.1 14)) (C := RX7) (T := TX7) (N := 28) hx hb ht inX7 hown hK hP 0 eM_0 rfl 14 (by decide) (ht _ tw_669) (fun _ h9 => h9) rfl dX7_wipe_1 ?_
    refine lv_topi (fun x1_1 ex1_1 => ?_)
    have hf := hf x1_1 ex1_1
    refine lv_istore_n (lv' := [(1, .int x1_1), (0, .ref (q0 0))]) hx hb dX7_wipe_4 rfl hl (by decide) rfl (fun ls hl => ?_)
    refine lv_aload_n hx hb dX7_wipe_5 rfl (lv_at hl 1 rfl) ?_
    refine lv_iconst (v := (0 : Int32)) hx hb dX7_wipe_6 (by decide) ?_
    refine va_put (D := D) (ci := 5) (v := .int (0 : Int32)) (ty := .int) (C := RX7) (T := TX7) (N := 28) hx hb ht inX7 tyX7 tyX7_ok nmX7 hown hK hP hD hS 0 eM_0 rfl 14 (by decide) (ht _ tw_669) (fun _ h9 => h9) rfl pf_I rfl rfl (Nat.le_of_ble_eq_true rfl) dX7_wipe_7 (fun H locs hP hD hS => ?_)
    obtain ⟨s0_2, es0_2⟩ : ∃ y : CS, y = sI s0 14 (0 : Int32) := ⟨_, rfl⟩
    have hf := hf s0_2 es0_2
    have hD := hDk s0_2
    have hP : va_P D classes (wM cI cZ q0 s0_2) H := by rw [es0_2]; exact PM_I14 hP
    refine lv_iload_n hx hb dX7_wipe_10 rfl (lv_at hl 0 rfl) ?_
    exact W.iret (v := x1_1) hx hb hr (fun t ht hW => ⟨⟨x1_1, s0_2, rfl, hf, P_heap ht hP⟩, hS.F ht⟩) hS.2.2 dX7_wipe_11
  exact start s.heap [] hP hD hS
def B_X7_told_94  (t0 : Int32) (s0 : CS) (Q : Int32 → CS → Prop) : Prop := ∀ s0_1 : CS, s0_1 = sI s0 16 t0 → Q (0 : Int32) s0_1
def B_X7_told_73  (s0 : CS) (Q : Int32 → CS → Prop) : Prop := ((¬ (s0.1 16) = (-9 : Int32) → B_X7_told_94  (s0.1 16) s0 Q) ∧ ((s0.1 16) = (-9 : Int32) → B_X7_told_94  (s0.1 15) s0 Q))
def B_X7_told_45  (x2 : Int32) (x3 : Int32) (t0 : Int32) (s0 : CS) (Q : Int32 → CS → Prop) : Prop := ((x3 = 0 → B_X7_told_73  s0 Q) ∧ (¬ x3 = 0 → wp_X7_in (t0.toInt64) (0 : Int64) (19 : Int64) (fun r_4 => ((r_4 = 0 → B_X7_told_73  s0 Q) ∧ (¬ r_4 = 0 → wp_X7_has x2 t0 (fun r_6 => ((¬ r_6 = 0 → ∀ s0_8 : CS, s0_8 = sI s0 15 ((s0.1 15) + (1 : Int32)) → Q t0 s0_8) ∧ (r_6 = 0 → B_X7_told_73  s0 Q))))))))
def B_X7_told_25  (x1 : Int32) (x2 : Int32) (t0 : Int32) (s0 : CS) (Q : Int32 → CS → Prop) : Prop := ((t0 = 0 → B_X7_told_45  x2 t0 (0 : Int32) s0 Q) ∧ (¬ t0 = 0 → vp_in (s0.1 15) 48 ∧ B_X7_told_45  x2 t0 (((s0.2.1 13) (s0.1 15).toNatClampNeg) - x1) s0 Q))
def B_X7_told_24  (x1 : Int32) (x2 : Int32) (s0 : CS) (Q : Int32 → CS → Prop) : Prop := B_X7_told_25  x1 x2 (0 : Int32) s0 Q
def wp_X7_told (p0 : Int32) (p1 : Int32) (s0 : CS) (Q : Int32 → CS → Prop) : Prop := ((¬ (s0.1 16) = (-9 : Int32) → B_X7_told_24  p0 p1 s0 Q) ∧ ((s0.1 16) = (-9 : Int32) → (((s0.1 14) ≤ (s0.1 15) → B_X7_told_24  p0 p1 s0 Q) ∧ (¬ (s0.1 14) ≤ (s0.1 15) → B_X7_told_25  p0 p1 (1 : Int32) s0 Q))))
set_option maxHeartbeats 4000000 in
set_option maxRecDepth 100000 in
theorem c_X7_told (l : Launch) (D : va_G) (cI cZ cW : ClassId) (q0 : Nat → Nat) (sz : Nat) (p0 : Int32) (p1 : Int32) (s0 : CS) (Q : Int32 → CS → Prop) (hf : wp_X7_told p0 p1 s0 Q) : Met l yX7_told (wsA yX7_told cX7_told 5 (some .int)) ({ frames := 1, cells := 0, slots := 0, locals := 25 }) (PW D cI cZ cW [.ref (q0 0), .int p0, .int p1] (wM cI cZ q0 s0) sz) (va_Qi (fun (r : Int32) (u : CS) => Q r u) (fun u t => va_P D classes (wM cI cZ q0 u) t.heap) (va_A (wM cI cZ q0 s0) sz)) 0 0 (va_A (wM cI cZ q0 s0) sz) := by
  refine Met.ofW (cc := cX7_told) (maxL := 5) (ret := (some .int)) (by decide) rfl ?_
  intro p e s m args below meth c s₁ B hml hv
  obtain ⟨rfl, hsz, hP, hK, hD0⟩ := hv
  have hx := B.exec
  have hb := B.bytes
  have hr := B.returns
  have hts := atoms_spec (ws := (wsA yX7_told cX7_told 5 (some .int))) B.pre
  have ht : ∀ w ∈ lw_g, w.before _ s = true := fun w h => hts w (List.mem_cons_of_mem _ h)
  have hown : s.vm.findClass RX7 = some m.cls := findClass_of_methodNamed B.named
  have hlocks := B.notSynchronized
  subst hsz
  have hD := hD0.self (sz := s.heap.size)
  generalize hAe : va_A (wM cI cZ q0 s0) s.heap.size = A at hD ⊢
  have hA : ∀ q : Nat, s.heap.size ≤ q → A q := fun q h => by rw [← hAe]; exact Or.inr h
  have hS : va_S A s.heap s.heap [] := va_S.rf
  have hDk : ∀ w : CS, va_D A (wM cI cZ q0 w) := fun w => D_M hD
  have hl := lv_entry ([.ref (q0 0), .int p0, .int p1]) (n := 5) (Nat.le_of_ble_eq_true rfl)
  rw [lg_entry_eq]
  generalize (lg_sl ([.ref (q0 0), .int p0, .int p1]) ++ List.replicate (5 - (lg_sl ([.ref (q0 0), .int p0, .int p1])).length) Slot.unset).toArray = ls at hl ⊢
  have hl : lv_has ls 5 [(0, .ref (q0 0)), (1, .int p0), (2, .int p1)] := hl
  unfold wp_X7_told at hf
  have k_94 : ∀ (t0 : Int32) (s0 : CS) (H : Heap) (locs : List Loc) (ls : Array Slot), B_X7_told_94  t0 s0 Q → va_P D classes (wM cI cZ q0 s0) H → va_D A (wM cI cZ q0 s0) → va_S A s.heap H locs → lv_has ls 5 [] → W p l e (headSpec (wsA yX7_told cX7_told 5 (some .int)) ({ frames := 1, cells := 0, slots := 0, locals := 25 })).room s m (#[.ref (q0 0), .int p0, .int p1] : Array Value) below meth c H locs 0 0 (MQ below (va_Qi (fun (r : Int32) (u : CS) => Q r u) (fun u t => va_P D classes (wM cI cZ q0 u) t.heap) A) (#[.ref (q0 0), .int p0, .int p1] : Array Value) s 0 0 A) (F0 m 94 ls [.int t0, .ref (q0 0)]) := by
    intro t0 s0 H locs ls hf hP hD hS hl
    unfold B_X7_told_94 at hf
    refine va_put (D := D) (ci := 5) (v := .int t0) (ty := .int) (C := RX7) (T := TX7) (N := 28) hx hb ht inX7 tyX7 tyX7_ok nmX7 hown hK hP hD hS 0 eM_0 rfl 16 (by decide) (ht _ tw_671) (fun _ h9 => h9) rfl pf_I rfl rfl (Nat.le_of_ble_eq_true rfl) dX7_told_94 (fun H locs hP hD hS => ?_)
    obtain ⟨s0_1, es0_1⟩ : ∃ y : CS, y = sI s0 16 t0 := ⟨_, rfl⟩
    have hf := hf s0_1 es0_1
    have hD := hDk s0_1
    have hP : va_P D classes (wM cI cZ q0 s0_1) H := by rw [es0_1]; exact PM_I16 hP
    refine lv_iconst (v := (0 : Int32)) hx hb dX7_told_97 (by decide) ?_
    exact W.iret (v := (0 : Int32)) hx hb hr (fun t ht hW => ⟨⟨(0 : Int32), s0_1, rfl, hf, P_heap ht hP⟩, hS.F ht⟩) hS.2.2 dX7_told_98
  have k_73 : ∀ (s0 : CS) (H : Heap) (locs : List Loc) (ls : Array Slot), B_X7_told_73  s0 Q → va_P D classes (wM cI cZ q0 s0) H → va_D A (wM cI cZ q0 s0) → va_S A s.heap H locs → lv_has ls 5 [(0, .ref (q0 0))] → W p l e (headSpec (wsA yX7_told cX7_told 5 (some .int)) ({ frames := 1, cells := 0, slots := 0, locals := 25 })).room s m (#[.ref (q0 0), .int p0, .int p1] : Array Value) below meth c H locs 0 0 (MQ below (va_Qi (fun (r : Int32) (u : CS) => Q r u) (fun u t => va_P D classes (wM cI cZ q0 u) t.heap) A) (#[.ref (q0 0), .int p0, .int p1] : Array Value) s 0 0 A) (F0 m 73 ls []) := by
    intro s0 H locs ls hf hP hD hS hl
    unfold B_X7_told_73 at hf
    refine lv_aload_n hx hb dX7_told_73 rfl (lv_at hl 0 rfl) ?_
    refine lv_aload_n hx hb dX7_told_74 rfl (lv_at hl 0 rfl) ?_
    refine va_get (D := D) (ci := 5) (v := .int (s0.1 16)) (C := RX7) (T := TX7) (N := 28) hx hb ht inX7 hown hK hP 0 eM_0 rfl 16 (by decide) (ht _ tw_671) (fun _ h9 => h9) rfl dX7_told_75 ?_
    refine lv_bipush (v := (-9 : Int32)) hx hb dX7_told_78 (by decide) ?_
    refine lv_icmp_ne (tgt := 90) hx hb dX7_told_80 (by decide) (fun c_2 => ?_) (fun c_2 => ?_)
    · have hf := hf.1 c_2
      refine lv_aload_n hx hb dX7_told_90 rfl (lv_at hl 0 rfl) ?_
      refine va_get (D := D) (ci := 5) (v := .int (s0.1 16)) (C := RX7) (T := TX7) (N := 28) hx hb ht inX7 hown hK hP 0 eM_0 rfl 16 (by decide) (ht _ tw_671) (fun _ h9 => h9) rfl dX7_told_91 ?_
      exact k_94 (s0.1 16) s0 H locs ls hf hP hD hS (lv_sub hl [] rfl)
    · have hf := hf.2 c_2
      refine lv_aload_n hx hb dX7_told_83 rfl (lv_at hl 0 rfl) ?_
      refine va_get (D := D) (ci := 5) (v := .int (s0.1 15)) (C := RX7) (T := TX7) (N := 28) hx hb ht inX7 hown hK hP 0 eM_0 rfl 15 (by decide) (ht _ tw_670) (fun _ h9 => h9) rfl dX7_told_84 ?_
      refine lv_goto (tgt := 94) hx hb dX7_told_87 (by decide) ?_
      exact k_94 (s0.1 15) s0 H locs ls hf hP hD hS (lv_sub hl [] rfl)
  have k_45 : ∀ (x2 : Int32) (x3 : Int32) (t0 : Int32) (s0 : CS) (H : Heap) (locs : List Loc) (ls : Array Slot), B_X7_told_45  x2 x3 t0 s0 Q → va_P D classes (wM cI cZ q0 s0) H → va_D A (wM cI cZ q0 s0) → va_S A s.heap H locs → lv_has ls 5 [(0, .ref (q0 0)), (2, .int x2), (3, .int x3)] → W p l e (headSpec (wsA yX7_told cX7_told 5 (some .int)) ({ frames := 1, cells := 0, slots := 0, locals := 25 })).room s m (#[.ref (q0 0), .int p0, .int p1] : Array Value) below meth c H locs 0 0 (MQ below (va_Qi (fun (r : Int32) (u : CS) => Q r u) (fun u t => va_P D classes (wM cI cZ q0 u) t.heap) A) (#[.ref (q0 0), .int p0, .int p1] : Array Value) s 0 0 A) (F0 m 45 ls [.int t0]) := by
    intro x2 x3 t0 s0 H locs ls hf hP hD hS hl
    unfold B_X7_told_45 at hf
    refine lv_istore (lv' := [(4, .int t0), (0, .ref (q0 0)), (2, .int x2), (3, .int x3)]) hx hb dX7_told_45 hl (by decide) rfl (fun ls hl => ?_)
    refine lv_iload_n hx hb dX7_told_47 rfl (lv_at hl 3 rfl) ?_
    refine lv_if_eq (tgt := 73) hx hb dX7_told_48 (by decide) (fun c_3 => ?_) (fun c_3 => ?_)
    · have hf := hf.1 c_3
      exact k_73 s0 H locs ls hf hP hD hS (lv_sub hl [1] rfl)
    · have hf := hf.2 c_3
      refine lv_iload hx hb dX7_told_51 (lv_at hl 0 rfl) ?_
      refine lv_i2l (v := t0.toInt64) hx hb dX7_told_53 rfl ?_
      refine lv_lconst (v := (0 : Int64)) hx hb dX7_told_54 (by decide) ?_
      refine lv_ldc2 (v := (19 : Int64)) hx hb hown (ht _ tw_768) dX7_told_55 ?_
      have hPc : va_P D classes ([] : va_W) H := hP.sub [] rfl
      refine vp_callSi (W.runS (As := [.long t0.toInt64, .long (0 : Int64), .long (19 : Int64)]) (rest := []) ⟨hx, hb, hml, hown, hts⟩ (c_X7_in l D cI cZ cW  (t0.toInt64) (0 : Int64) (19 : Int64) _ hf) ⟨callB_of 3 hts (gA tw_747) rfl rfl rfl (ht _ tw_7) (ht _ tw_745) hd_X7_in ⟨Nat.le_of_ble_eq_true rfl, Nat.le_of_ble_eq_true rfl⟩, ht _ tw_746⟩ ⟨PR_blind, fun U hU hW => PR_mk hPc hK hU hW⟩ rfl rfl hl.1 rfl (lv_room (Nat.le_of_ble_eq_true rfl)) dX7_told_58 ⟨Nat.zero_le _, Nat.zero_le _⟩) (fun r_4 hf => ?_)
      refine lv_if_eq (tgt := 73) hx hb dX7_told_61 (by decide) (fun c_5 => ?_) (fun c_5 => ?_)
      · have hf := hf.1 c_5
        exact k_73 s0 H locs ls hf hP hD hS (lv_sub hl [1] rfl)
      · have hf := hf.2 c_5
        refine lv_iload_n hx hb dX7_told_64 rfl (lv_at hl 2 rfl) ?_
        refine lv_iload hx hb dX7_told_65 (lv_at hl 0 rfl) ?_
        have hPc : va_P D classes ([] : va_W) H := hP.sub [] rfl
        refine vp_callSi (W.runS (As := [.int x2, .int t0]) (rest := []) ⟨hx, hb, hml, hown, hts⟩ (c_X7_has l D cI cZ cW  x2 t0 _ hf) ⟨callB_of 2 hts (gA tw_771) rfl rfl rfl (ht _ tw_7) (ht _ tw_769) hd_X7_has ⟨Nat.le_of_ble_eq_true rfl, Nat.le_of_ble_eq_true rfl⟩, ht _ tw_770⟩ ⟨PR_blind, fun U hU hW => PR_mk hPc hK hU hW⟩ rfl rfl hl.1 rfl (lv_room (Nat.le_of_ble_eq_true rfl)) dX7_told_67 ⟨Nat.zero_le _, Nat.zero_le _⟩) (fun r_6 hf => ?_)
        refine lv_if_ne (tgt := 99) hx hb dX7_told_70 (by decide) (fun c_7 => ?_) (fun c_7 => ?_)
        · have hf := hf.1 c_7
          refine lv_aload_n hx hb dX7_told_99 rfl (lv_at hl 1 rfl) ?_
          refine lv_dup hx hb dX7_told_100 rfl ?_
          refine va_get (D := D) (ci := 5) (v := .int (s0.1 15)) (C := RX7) (T := TX7) (N := 28) hx hb ht inX7 hown hK hP 0 eM_0 rfl 15 (by decide) (ht _ tw_670) (fun _ h9 => h9) rfl dX7_told_101 ?_
          refine lv_iconst (v := (1 : Int32)) hx hb dX7_told_104 (by decide) ?_
          refine lv_iadd hx hb dX7_told_105 ?_
          refine va_put (D := D) (ci := 5) (v := .int ((s0.1 15) + (1 : Int32))) (ty := .int) (C := RX7) (T := TX7) (N := 28) hx hb ht inX7 tyX7 tyX7_ok nmX7 hown hK hP hD hS 0 eM_0 rfl 15 (by decide) (ht _ tw_670) (fun _ h9 => h9) rfl pf_I rfl rfl (Nat.le_of_ble_eq_true rfl) dX7_told_106 (fun H locs hP hD hS => ?_)
          obtain ⟨s0_8, es0_8⟩ : ∃ y : CS, y = sI s0 15 ((s0.1 15) + (1 : Int32)) := ⟨_, rfl⟩
          have hf := hf s0_8 es0_8
          have hD := hDk s0_8
          have hP : va_P D classes (wM cI cZ q0 s0_8) H := by rw [es0_8]; exact PM_I15 hP
          refine lv_iload hx hb dX7_told_109 (lv_at hl 0 rfl) ?_
          exact W.iret (v := t0) hx hb hr (fun t ht hW => ⟨⟨t0, s0_8, rfl, hf, P_heap ht hP⟩, hS.F ht⟩) hS.2.2 dX7_told_111
        · have hf := hf.2 c_7
          exact k_73 s0 H locs ls hf hP hD hS (lv_sub hl [1] rfl)
  have k_25 : ∀ (x1 : Int32) (x2 : Int32) (t0 : Int32) (s0 : CS) (H : Heap) (locs : List Loc) (ls : Array Slot), B_X7_told_25  x1 x2 t0 s0 Q → va_P D classes (wM cI cZ q0 s0) H → va_D A (wM cI cZ q0 s0) → va_S A s.heap H locs → lv_has ls 5 [(0, .ref (q0 0)), (1, .int x1), (2, .int x2)] → W p l e (headSpec (wsA yX7_told cX7_told 5 (some .int)) ({ frames := 1, cells := 0, slots := 0, locals := 25 })).room s m (#[.ref (q0 0), .int p0, .int p1] : Array Value) below meth c H locs 0 0 (MQ below (va_Qi (fun (r : Int32) (u : CS) => Q r u) (fun u t => va_P D classes (wM cI cZ q0 u) t.heap) A) (#[.ref (q0 0), .int p0, .int p1] : Array Value) s 0 0 A) (F0 m 25 ls [.int t0]) := by
    intro x1 x2 t0 s0 H locs ls hf hP hD hS hl
    unfold B_X7_told_25 at hf
    refine lv_istore_n (lv' := [(3, .int t0), (0, .ref (q0 0)), (1, .int x1), (2, .int x2)]) hx hb dX7_told_25 rfl hl (by decide) rfl (fun ls hl => ?_)
    refine lv_iload_n hx hb dX7_told_26 rfl (lv_at hl 0 rfl) ?_
    refine lv_if_eq (tgt := 44) hx hb dX7_told_27 (by decide) (fun c_9 => ?_) (fun c_9 => ?_)
    · have hf := hf.1 c_9
      refine lv_iconst (v := (0 : Int32)) hx hb dX7_told_44 (by decide) ?_
      exact k_45 x2 t0 (0 : Int32) s0 H locs ls hf hP hD hS (lv_sub hl [1, 3, 0] rfl)
    · have hf := hf.2 c_9
      refine lv_aload_n hx hb dX7_told_30 rfl (lv_at hl 1 rfl) ?_
      refine va_get (D := D) (ci := 5) (v := .ref (q0 8)) (C := RX7) (T := TX7) (N := 28) hx hb ht inX7 hown hK hP 0 eM_0 rfl 13 (by decide) (ht _ tw_668) (fun _ h9 => h9) rfl dX7_told_31 ?_
      refine lv_aload_n hx hb dX7_told_34 rfl (lv_at hl 1 rfl) ?_
      refine va_get (D := D) (ci := 5) (v := .int (s0.1 15)) (C := RX7) (T := TX7) (N := 28) hx hb ht inX7 hown hK hP 0 eM_0 rfl 15 (by decide) (ht _ tw_670) (fun _ h9 => h9) rfl dX7_told_35 ?_
      obtain ⟨hi_10, hf⟩ := hf
      refine va_iald hx hb hK hP 8 0 eM_8 rfl hi_10 dX7_told_38 ?_
      refine lv_iload_n hx hb dX7_told_39 rfl (lv_at hl 2 rfl) ?_
      refine lv_isub hx hb dX7_told_40 ?_
      refine lv_goto (tgt := 45) hx hb dX7_told_41 (by decide) ?_
      exact k_45 x2 t0 (((s0.2.1 13) (s0.1 15).toNatClampNeg) - x1) s0 H locs ls hf hP hD hS (lv_sub hl [1, 3, 0] rfl)
  have k_24 : ∀ (x1 : Int32) (x2 : Int32) (s0 : CS) (H : Heap) (locs : List Loc) (ls : Array Slot), B_X7_told_24  x1 x2 s0 Q → va_P D classes (wM cI cZ q0 s0) H → va_D A (wM cI cZ q0 s0) → va_S A s.heap H locs → lv_has ls 5 [(0, .ref (q0 0)), (1, .int x1), (2, .int x2)] → W p l e (headSpec (wsA yX7_told cX7_told 5 (some .int)) ({ frames := 1, cells := 0, slots := 0, locals := 25 })).room s m (#[.ref (q0 0), .int p0, .int p1] : Array Value) below meth c H locs 0 0 (MQ below (va_Qi (fun (r : Int32) (u : CS) => Q r u) (fun u t => va_P D classes (wM cI cZ q0 u) t.heap) A) (#[.ref (q0 0), .int p0, .int p1] : Array Value) s 0 0 A) (F0 m 24 ls []) := by
    intro x1 x2 s0 H locs ls hf hP hD hS hl
    unfold B_X7_told_24 at hf
    refine lv_iconst (v := (0 : Int32)) hx hb dX7_told_24 (by decide) ?_
    exact k_25 x1 x2 (0 : Int32) s0 H locs ls hf hP hD hS (lv_sub hl [0, 1, 2] rfl)
  have start : ∀ (H : Heap) (locs : List Loc), va_P D classes (wM cI cZ q0 s0) H → va_D A (wM cI cZ q0 s0) → va_S A s.heap H locs → W p l e (headSpec (wsA yX7_told cX7_told 5 (some .int)) ({ frames := 1, cells := 0, slots := 0, locals := 25 })).room s m (#[.ref (q0 0), .int p0, .int p1] : Array Value) below meth c H locs 0 0 (MQ below (va_Qi (fun (r : Int32) (u : CS) => Q r u) (fun u t => va_P D classes (wM cI cZ q0 u) t.heap) A) (#[.ref (q0 0), .int p0, .int p1] : Array Value) s 0 0 A) (F0 m 0 ls []) := by
    intro H locs hP hD hS
    refine lv_aload_n hx hb dX7_told_0 rfl (lv_at hl 0 rfl) ?_
    refine va_get (D := D) (ci := 5) (v := .int (s0.1 16)) (C := RX7) (T := TX7) (N := 28) hx hb ht inX7 hown hK hP 0 eM_0 rfl 16 (by decide) (ht _ tw_671) (fun _ h9 => h9) rfl dX7_told_1 ?_
    refine lv_bipush (v := (-9 : Int32)) hx hb dX7_told_4 (by decide) ?_
    refine lv_icmp_ne (tgt := 24) hx hb dX7_told_6 (by decide) (fun c_11 => ?_) (fun c_11 => ?_)
    · have hf := hf.1 c_11
      exact k_24 p0 p1 s0 H locs ls hf hP hD hS (lv_sub hl [0, 1, 2] rfl)
    · have hf := hf.2 c_11
      refine lv_aload_n hx hb dX7_told_9 rfl (lv_at hl 0 rfl) ?_
      refine va_get (D := D) (ci := 5) (v := .int (s0.1 15)) (C := RX7) (T := TX7) (N := 28) hx hb ht inX7 hown hK hP 0 eM_0 rfl 15 (by decide) (ht _ tw_670) (fun _ h9 => h9) rfl dX7_told_10 ?_
      refine lv_aload_n hx hb dX7_told_13 rfl (lv_at hl 0 rfl) ?_
      refine va_get (D := D) (ci := 5) (v := .int (s0.1 14)) (C := RX7) (T := TX7) (N := 28) hx hb ht inX7 hown hK hP 0 eM_0 rfl 14 (by decide) (ht _ tw_669) (fun _ h9 => h9) rfl dX7_told_14 ?_
      refine lv_icmp_ge (tgt := 24) hx hb dX7_told_17 (by decide) (fun c_12 => ?_) (fun c_12 => ?_)
      · have hf := hf.1 c_12
        exact k_24 p0 p1 s0 H locs ls hf hP hD hS (lv_sub hl [0, 1, 2] rfl)
      · have hf := hf.2 c_12
        refine lv_iconst (v := (1 : Int32)) hx hb dX7_told_20 (by decide) ?_
        refine lv_goto (tgt := 25) hx hb dX7_told_21 (by decide) ?_
        exact k_25 p0 p1 (1 : Int32) s0 H locs ls hf hP hD hS (lv_sub hl [0, 1, 2] rfl)
  exact start s.heap [] hP hD hS
def B_X7_readPart_299  (s0 : CS) (Q : CS → Prop) : Prop := ∀ s0_1 : CS, s0_1 = sI s0 16 (s0.1 15) → Q s0_1
def B_X7_readPart_174  (x1 : Int32) (x2 : Int32) (s0 : CS) (Q : CS → Prop) : Prop := ((¬ x1 = (72 : Int32) → B_X7_readPart_299  s0 Q) ∧ (x1 = (72 : Int32) → (((s0.1 9) ≤ 0 → B_X7_readPart_299  s0 Q) ∧ (¬ (s0.1 9) ≤ 0 → (((5 : Int32) ≤ (s0.1 11) → B_X7_readPart_299  s0 Q) ∧ (¬ (5 : Int32) ≤ (s0.1 11) → ∀ s0_5 : CS, s0_5 = sI s0 15 ((s0.1 15) + (1 : Int32)) → wp_X7_told (97 : Int32) ((1048575 : Int32) &&& ((s0_5.1 12) ^^^ (-1 : Int32))) s0_5 (fun r_7 s0_6 => vp_in ((3 : Int32) * (s0_6.1 11)) 15 ∧ ∀ s0_9 : CS, s0_9 = sA s0_6 8 ((3 : Int32) * (s0_6.1 11)).toNatClampNeg r_7 → wp_X7_told (48 : Int32) x2 s0_9 (fun r_11 s0_10 => vp_in (((3 : Int32) * (s0_9.1 11)) + (1 : Int32)) 15 ∧ ∀ s0_13 : CS, s0_13 = sA s0_10 8 (((3 : Int32) * (s0_9.1 11)) + (1 : Int32)).toNatClampNeg r_11 → wp_X7_told (48 : Int32) (15 : Int32) s0_13 (fun r_15 s0_14 => vp_in (((3 : Int32) * (s0_13.1 11)) + (2 : Int32)) 15 ∧ ∀ s0_17 : CS, s0_17 = sA s0_14 8 (((3 : Int32) * (s0_13.1 11)) + (2 : Int32)).toNatClampNeg r_15 → ∀ s0_18 : CS, s0_18 = sI s0_17 12 ((s0_17.1 12) ||| ((1 : Int32) <<< (r_7 &&& 31))) → ∀ s0_19 : CS, s0_19 = sI s0_18 11 ((s0_18.1 11) + (1 : Int32)) → Q s0_19)))))))))
def B_X7_readPart_167  (t0 : Int32) (t1 : Int32) (s0 : CS) (Q : CS → Prop) : Prop := ∀ s0_20 : CS, s0_20 = sI s0 10 (t1 ||| t0) → Q s0_20
def B_X7_readPart_145  (x3 : Int32) (t0 : Int32) (t1 : Int32) (s0 : CS) (Q : CS → Prop) : Prop := vp_in t1 4 ∧ ∀ s0_22 : CS, s0_22 = sA s0 7 t1.toNatClampNeg t0 → ((¬ (s0_22.1 16) = (-9 : Int32) → B_X7_readPart_167  (0 : Int32) (s0_22.1 10) s0_22 Q) ∧ ((s0_22.1 16) = (-9 : Int32) → B_X7_readPart_167  ((1 : Int32) <<< (x3 &&& 31)) (s0_22.1 10) s0_22 Q))
def B_X7_readPart_63  (x1 : Int32) (x2 : Int32) (s0 : CS) (Q : CS → Prop) : Prop := ((¬ x1 = (82 : Int32) → B_X7_readPart_174  x1 x2 s0 Q) ∧ (x1 = (82 : Int32) → (((s0.1 9) ≤ 0 → B_X7_readPart_174  x1 x2 s0 Q) ∧ (¬ (s0.1 9) ≤ 0 → (((s0.1 10) = (15 : Int32) → B_X7_readPart_174  x1 x2 s0 Q) ∧ (¬ (s0.1 10) = (15 : Int32) → ∀ s0_27 : CS, s0_27 = sI s0 15 ((s0.1 15) + (1 : Int32)) → wp_X7_told (48 : Int32) ((15 : Int32) &&& ((s0_27.1 10) ^^^ (-1 : Int32))) s0_27 (fun r_29 s0_28 => wp_X7_told (48 : Int32) x2 s0_28 (fun r_31 s0_30 => ((¬ (s0_30.1 16) = (-9 : Int32) → vp_in r_29 4 ∧ B_X7_readPart_145  r_29 ((s0_30.2.1 7) r_29.toNatClampNeg) r_29 s0_30 Q) ∧ ((s0_30.1 16) = (-9 : Int32) → B_X7_readPart_145  r_29 r_31 r_29 s0_30 Q))))))))))
def wp_X7_readPart (p0 : Int32) (s0 : CS) (Q : CS → Prop) : Prop := ∀ x2_34 : Int32, x2_34 = (((1 : Int32) <<< ((s0.1 9) &&& 31)) - (1 : Int32)) → ((¬ p0 = (79 : Int32) → B_X7_readPart_63  p0 x2_34 s0 Q) ∧ (p0 = (79 : Int32) → (((4 : Int32) ≤ (s0.1 9) → B_X7_readPart_63  p0 x2_34 s0 Q) ∧ (¬ (4 : Int32) ≤ (s0.1 9) → ∀ s0_37 : CS, s0_37 = sI s0 15 ((s0.1 15) + (1 : Int32)) → wp_X7_told (48 : Int32) (15 : Int32) s0_37 (fun r_39 s0_38 => vp_in (s0_37.1 9) 4 ∧ ∀ s0_41 : CS, s0_41 = sA s0_38 6 (s0_37.1 9).toNatClampNeg r_39 → ∀ s0_42 : CS, s0_42 = sI s0_41 9 ((s0_41.1 9) + (1 : Int32)) → Q s0_42)))))
set_option maxHeartbeats 4000000 in
set_option maxRecDepth 100000 in
theorem c_X7_readPart (l : Launch) (D : va_G) (cI cZ cW : ClassId) (q0 : Nat → Nat) (sz : Nat) (p0 : Int32) (s0 : CS) (Q : CS → Prop) (hf : wp_X7_readPart p0 s0 Q) : Met l yX7_readPart (wsA yX7_readPart cX7_readPart 5 none) ({ frames := 2, cells := 0, slots := 0, locals := 49 }) (PW D cI cZ cW [.ref (q0 0), .int p0] (wM cI cZ q0 s0) sz) (va_Qv (fun (u : CS) => Q u) (fun u t => va_P D classes (wM cI cZ q0 u) t.heap) (va_A (wM cI cZ q0 s0) sz)) 0 0 (va_A (wM cI cZ q0 s0) sz) := by
  refine Met.ofW (cc := cX7_readPart) (maxL := 5) (ret := none) (by decide) rfl ?_
  intro p e s m args below meth c s₁ B hml hv
  obtain ⟨rfl, hsz, hP, hK, hD0⟩ := hv
  have hx := B.exec
  have hb := B.bytes
  have hr := B.returns
  have hts := atoms_spec (ws := (wsA yX7_readPart cX7_readPart 5 none)) B.pre
  have ht : ∀ w ∈ lw_g, w.before _ s = true := fun w h => hts w (List.mem_cons_of_mem _ h)
  have hown : s.vm.findClass RX7 = some m.cls := findClass_of_methodNamed B.named
  have hlocks := B.notSynchronized
  subst hsz
  have hD := hD0.self (sz := s.heap.size)
  generalize hAe : va_A (wM cI cZ q0 s0) s.heap.size = A at hD ⊢
  have hA : ∀ q : Nat, s.heap.size ≤ q → A q := fun q h => by rw [← hAe]; exact Or.inr h
  have hS : va_S A s.heap s.heap [] := va_S.rf
  have hDk : ∀ w : CS, va_D A (wM cI cZ q0 w) := fun w => D_M hD
  have hl := lv_entry ([.ref (q0 0), .int p0]) (n := 5) (Nat.le_of_ble_eq_true rfl)
  rw [lg_entry_eq]
  generalize (lg_sl ([.ref (q0 0), .int p0]) ++ List.replicate (5 - (lg_sl ([.ref (q0 0), .int p0])).length) Slot.unset).toArray = ls at hl ⊢
  have hl : lv_has ls 5 [(0, .ref (q0 0)), (1, .int p0)] := hl
  unfold wp_X7_readPart at hf
  have k_299 : ∀ (s0 : CS) (H : Heap) (locs : List Loc) (ls : Array Slot), B_X7_readPart_299  s0 Q → va_P D classes (wM cI cZ q0 s0) H → va_D A (wM cI cZ q0 s0) → va_S A s.heap H locs → lv_has ls 5 [(0, .ref (q0 0))] → W p l e (headSpec (wsA yX7_readPart cX7_readPart 5 none) ({ frames := 2, cells := 0, slots := 0, locals := 49 })).room s m (#[.ref (q0 0), .int p0] : Array Value) below meth c H locs 0 0 (MQ below (va_Qv (fun (u : CS) => Q u) (fun u t => va_P D classes (wM cI cZ q0 u) t.heap) A) (#[.ref (q0 0), .int p0] : Array Value) s 0 0 A) (F0 m 299 ls []) := by
    intro s0 H locs ls hf hP hD hS hl
    unfold B_X7_readPart_299 at hf
    refine lv_aload_n hx hb dX7_readPart_299 rfl (lv_at hl 0 rfl) ?_
    refine lv_aload_n hx hb dX7_readPart_300 rfl (lv_at hl 0 rfl) ?_
    refine va_get (D := D) (ci := 5) (v := .int (s0.1 15)) (C := RX7) (T := TX7) (N := 28) hx hb ht inX7 hown hK hP 0 eM_0 rfl 15 (by decide) (ht _ tw_670) (fun _ h9 => h9) rfl dX7_readPart_301 ?_
    refine va_put (D := D) (ci := 5) (v := .int (s0.1 15)) (ty := .int) (C := RX7) (T := TX7) (N := 28) hx hb ht inX7 tyX7 tyX7_ok nmX7 hown hK hP hD hS 0 eM_0 rfl 16 (by decide) (ht _ tw_671) (fun _ h9 => h9) rfl pf_I rfl rfl (Nat.le_of_ble_eq_true rfl) dX7_readPart_304 (fun H locs hP hD hS => ?_)
    obtain ⟨s0_1, es0_1⟩ : ∃ y : CS, y = sI s0 16 (s0.1 15) := ⟨_, rfl⟩
    have hf := hf s0_1 es0_1
    have hD := hDk s0_1
    have hP : va_P D classes (wM cI cZ q0 s0_1) H := by rw [es0_1]; exact PM_I16 hP
    exact W.vret hx hb hr (fun t ht hW => ⟨⟨s0_1, rfl, hf, P_heap ht hP⟩, hS.F ht⟩) hS.2.2 dX7_readPart_307
  have k_174 : ∀ (x1 : Int32) (x2 : Int32) (s0 : CS) (H : Heap) (locs : List Loc) (ls : Array Slot), B_X7_readPart_174  x1 x2 s0 Q → va_P D classes (wM cI cZ q0 s0) H → va_D A (wM cI cZ q0 s0) → va_S A s.heap H locs → lv_has ls 5 [(0, .ref (q0 0)), (1, .int x1), (2, .int x2)] → W p l e (headSpec (wsA yX7_readPart cX7_readPart 5 none) ({ frames := 2, cells := 0, slots := 0, locals := 49 })).room s m (#[.ref (q0 0), .int p0] : Array Value) below meth c H locs 0 0 (MQ below (va_Qv (fun (u : CS) => Q u) (fun u t => va_P D classes (wM cI cZ q0 u) t.heap) A) (#[.ref (q0 0), .int p0] : Array Value) s 0 0 A) (F0 m 174 ls []) := by
    intro x1 x2 s0 H locs ls hf hP hD hS hl
    unfold B_X7_readPart_174 at hf
    refine lv_iload_n hx hb dX7_readPart_174 rfl (lv_at hl 1 rfl) ?_
    refine lv_bipush (v := (72 : Int32)) hx hb dX7_readPart_175 (by decide) ?_
    refine lv_icmp_ne (tgt := 299) hx hb dX7_readPart_177 (by decide) (fun c_2 => ?_) (fun c_2 => ?_)
    · have hf := hf.1 c_2
      exact k_299 s0 H locs ls hf hP hD hS (lv_sub hl [0] rfl)
    · have hf := hf.2 c_2
      refine lv_aload_n hx hb dX7_readPart_180 rfl (lv_at hl 0 rfl) ?_
      refine va_get (D := D) (ci := 5) (v := .int (s0.1 9)) (C := RX7) (T := TX7) (N := 28) hx hb ht inX7 hown hK hP 0 eM_0 rfl 9 (by decide) (ht _ tw_664) (fun _ h9 => h9) rfl dX7_readPart_181 ?_
      refine lv_if_le (tgt := 299) hx hb dX7_readPart_184 (by decide) (fun c_3 => ?_) (fun c_3 => ?_)
      · have hf := hf.1 c_3
        exact k_299 s0 H locs ls hf hP hD hS (lv_sub hl [0] rfl)
      · have hf := hf.2 c_3
        refine lv_aload_n hx hb dX7_readPart_187 rfl (lv_at hl 0 rfl) ?_
        refine va_get (D := D) (ci := 5) (v := .int (s0.1 11)) (C := RX7) (T := TX7) (N := 28) hx hb ht inX7 hown hK hP 0 eM_0 rfl 11 (by decide) (ht _ tw_666) (fun _ h9 => h9) rfl dX7_readPart_188 ?_
        refine lv_iconst (v := (5 : Int32)) hx hb dX7_readPart_191 (by decide) ?_
        refine lv_icmp_ge (tgt := 299) hx hb dX7_readPart_192 (by decide) (fun c_4 => ?_) (fun c_4 => ?_)
        · have hf := hf.1 c_4
          exact k_299 s0 H locs ls hf hP hD hS (lv_sub hl [0] rfl)
        · have hf := hf.2 c_4
          refine lv_aload_n hx hb dX7_readPart_195 rfl (lv_at hl 0 rfl) ?_
          refine lv_dup hx hb dX7_readPart_196 rfl ?_
          refine va_get (D := D) (ci := 5) (v := .int (s0.1 15)) (C := RX7) (T := TX7) (N := 28) hx hb ht inX7 hown hK hP 0 eM_0 rfl 15 (by decide) (ht _ tw_670) (fun _ h9 => h9) rfl dX7_readPart_197 ?_
          refine lv_iconst (v := (1 : Int32)) hx hb dX7_readPart_200 (by decide) ?_
          refine lv_iadd hx hb dX7_readPart_201 ?_
          refine va_put (D := D) (ci := 5) (v := .int ((s0.1 15) + (1 : Int32))) (ty := .int) (C := RX7) (T := TX7) (N := 28) hx hb ht inX7 tyX7 tyX7_ok nmX7 hown hK hP hD hS 0 eM_0 rfl 15 (by decide) (ht _ tw_670) (fun _ h9 => h9) rfl pf_I rfl rfl (Nat.le_of_ble_eq_true rfl) dX7_readPart_202 (fun H locs hP hD hS => ?_)
          obtain ⟨s0_5, es0_5⟩ : ∃ y : CS, y = sI s0 15 ((s0.1 15) + (1 : Int32)) := ⟨_, rfl⟩
          have hf := hf s0_5 es0_5
          have hD := hDk s0_5
          have hP : va_P D classes (wM cI cZ q0 s0_5) H := by rw [es0_5]; exact PM_I15 hP
          refine lv_aload_n hx hb dX7_readPart_205 rfl (lv_at hl 0 rfl) ?_
          refine lv_bipush (v := (97 : Int32)) hx hb dX7_readPart_206 (by decide) ?_
          refine lv_ldc (v := (1048575 : Int32)) hx hb hown (ht _ tw_772) dX7_readPart_208 ?_
          refine lv_aload_n hx hb dX7_readPart_210 rfl (lv_at hl 0 rfl) ?_
          refine va_get (D := D) (ci := 5) (v := .int (s0_5.1 12)) (C := RX7) (T := TX7) (N := 28) hx hb ht inX7 hown hK hP 0 eM_0 rfl 12 (by decide) (ht _ tw_667) (fun _ h9 => h9) rfl dX7_readPart_211 ?_
          refine lv_iconst (v := (-1 : Int32)) hx hb dX7_readPart_214 (by decide) ?_
          refine lv_ixor hx hb dX7_readPart_215 ?_
          refine lv_iand hx hb dX7_readPart_216 ?_
          have hPc : va_P D classes (wM cI cZ q0 s0_5) H := hP
          have hDc : va_D A (wM cI cZ q0 s0_5) := hD
          have hFc := va_free (wc := (wM cI cZ q0 s0_5)) hD hS hA [0, 1, 2, 3, 4, 5, 6, 7, 8, 9, 10, 11, 12, 13, 14, 15] rfl
          refine va_calli (va_runV (As := [.int (97 : Int32), .int ((1048575 : Int32) &&& ((s0_5.1 12) ^^^ (-1 : Int32)))]) (rest := []) ⟨hx, hb, hml, hown, hts⟩ (c_X7_told l D cI cZ cW q0 H.size (97 : Int32) ((1048575 : Int32) &&& ((s0_5.1 12) ^^^ (-1 : Int32))) s0_5 _ hf) ⟨callB_of 2 hts (gA tw_767) rfl rfl rfl (ht _ tw_7) (ht _ tw_764) hd_X7_told ⟨Nat.le_of_ble_eq_true rfl, Nat.le_of_ble_eq_true rfl⟩, ht _ tw_766, ht _ twp_20⟩ ⟨PW_blind, va_recv hK hP (ci := 5) (q0 := 0) rfl eM_0, fun U hU hW => PW_mk hPc hDc hK hU hW⟩ rfl rfl hl.1 rfl (lv_room (Nat.le_of_ble_eq_true rfl)) dX7_readPart_217 ⟨Nat.zero_le _, Nat.zero_le _⟩) hS (fun q _ h => hFc q h) hFc (fun r_7 u t H1 locs ht1 hvm hf hB hz1 hk1 hS => ?_)
          obtain ⟨s0_6, rfl⟩ : ∃ z, z = u := ⟨_, rfl⟩
          rw [ht1] at hB
          have hP := hB
          have hD := hDk s0_6
          generalize H1 = H at hP hS ⊢
          have hP : va_P D classes (wM cI cZ q0 s0_6) H := hP
          have hD : va_D A (wM cI cZ q0 s0_6) := hD
          refine lv_istore_n (lv' := [(3, .int r_7), (0, .ref (q0 0)), (1, .int x1), (2, .int x2)]) hx hb dX7_readPart_220 rfl hl (by decide) rfl (fun ls hl => ?_)
          refine lv_aload_n hx hb dX7_readPart_221 rfl (lv_at hl 1 rfl) ?_
          refine va_get (D := D) (ci := 5) (v := .ref (q0 7)) (C := RX7) (T := TX7) (N := 28) hx hb ht inX7 hown hK hP 0 eM_0 rfl 8 (by decide) (ht _ tw_663) (fun _ h9 => h9) rfl dX7_readPart_222 ?_
          refine lv_iconst (v := (3 : Int32)) hx hb dX7_readPart_225 (by decide) ?_
          refine lv_aload_n hx hb dX7_readPart_226 rfl (lv_at hl 1 rfl) ?_
          refine va_get (D := D) (ci := 5) (v := .int (s0_6.1 11)) (C := RX7) (T := TX7) (N := 28) hx hb ht inX7 hown hK hP 0 eM_0 rfl 11 (by decide) (ht _ tw_666) (fun _ h9 => h9) rfl dX7_readPart_227 ?_
          refine lv_imul hx hb dX7_readPart_230 ?_
          refine lv_iload_n hx hb dX7_readPart_231 rfl (lv_at hl 0 rfl) ?_
          obtain ⟨hi_8, hf⟩ := hf
          refine va_iast hx hb hK hP hD hS 7 0 eM_7 rfl hi_8 dX7_readPart_232 (fun H locs hP hD hS => ?_)
          obtain ⟨s0_9, es0_9⟩ : ∃ y : CS, y = sA s0_6 8 ((3 : Int32) * (s0_6.1 11)).toNatClampNeg r_7 := ⟨_, rfl⟩
          have hf := hf s0_9 es0_9
          have hD := hDk s0_9
          have hP : va_P D classes (wM cI cZ q0 s0_9) H := by rw [es0_9]; exact PM_F8 hP
          refine lv_aload_n hx hb dX7_readPart_233 rfl (lv_at hl 1 rfl) ?_
          refine va_get (D := D) (ci := 5) (v := .ref (q0 7)) (C := RX7) (T := TX7) (N := 28) hx hb ht inX7 hown hK hP 0 eM_0 rfl 8 (by decide) (ht _ tw_663) (fun _ h9 => h9) rfl dX7_readPart_234 ?_
          refine lv_iconst (v := (3 : Int32)) hx hb dX7_readPart_237 (by decide) ?_
          refine lv_aload_n hx hb dX7_readPart_238 rfl (lv_at hl 1 rfl) ?_
          refine va_get (D := D) (ci := 5) (v := .int (s0_9.1 11)) (C := RX7) (T := TX7) (N := 28) hx hb ht inX7 hown hK hP 0 eM_0 rfl 11 (by decide) (ht _ tw_666) (fun _ h9 => h9) rfl dX7_readPart_239 ?_
          refine lv_imul hx hb dX7_readPart_242 ?_
          refine lv_iconst (v := (1 : Int32)) hx hb dX7_readPart_243 (by decide) ?_
          refine lv_iadd hx hb dX7_readPart_244 ?_
          refine lv_aload_n hx hb dX7_readPart_245 rfl (lv_at hl 1 rfl) ?_
          refine lv_bipush (v := (48 : Int32)) hx hb dX7_readPart_246 (by decide) ?_
          refine lv_iload_n hx hb dX7_readPart_248 rfl (lv_at hl 3 rfl) ?_
          have hPc : va_P D classes (wM cI cZ q0 s0_9) H := hP
          have hDc : va_D A (wM cI cZ q0 s0_9) := hD
          have hFc := va_free (wc := (wM cI cZ q0 s0_9)) hD hS hA [0, 1, 2, 3, 4, 5, 6, 7, 8, 9, 10, 11, 12, 13, 14, 15] rfl
          refine va_calli (va_runV (As := [.int (48 : Int32), .int x2]) (rest := [.int (((3 : Int32) * (s0_9.1 11)) + (1 : Int32)), .ref (q0 7)]) ⟨hx, hb, hml, hown, hts⟩ (c_X7_told l D cI cZ cW q0 H.size (48 : Int32) x2 s0_9 _ hf) ⟨callB_of 2 hts (gA tw_767) rfl rfl rfl (ht _ tw_7) (ht _ tw_764) hd_X7_told ⟨Nat.le_of_ble_eq_true rfl, Nat.le_of_ble_eq_true rfl⟩, ht _ tw_766, ht _ twp_20⟩ ⟨PW_blind, va_recv hK hP (ci := 5) (q0 := 0) rfl eM_0, fun U hU hW => PW_mk hPc hDc hK hU hW⟩ rfl rfl hl.1 rfl (lv_room (Nat.le_of_ble_eq_true rfl)) dX7_readPart_249 ⟨Nat.zero_le _, Nat.zero_le _⟩) hS (fun q _ h => hFc q h) hFc (fun r_11 u t H1 locs ht1 hvm hf hB hz1 hk1 hS => ?_)
          obtain ⟨s0_10, rfl⟩ : ∃ z, z = u := ⟨_, rfl⟩
          rw [ht1] at hB
          have hP := hB
          have hD := hDk s0_10
          generalize H1 = H at hP hS ⊢
          have hP : va_P D classes (wM cI cZ q0 s0_10) H := hP
          have hD : va_D A (wM cI cZ q0 s0_10) := hD
          obtain ⟨hi_12, hf⟩ := hf
          refine va_iast hx hb hK hP hD hS 7 0 eM_7 rfl hi_12 dX7_readPart_252 (fun H locs hP hD hS => ?_)
          obtain ⟨s0_13, es0_13⟩ : ∃ y : CS, y = sA s0_10 8 (((3 : Int32) * (s0_9.1 11)) + (1 : Int32)).toNatClampNeg r_11 := ⟨_, rfl⟩
          have hf := hf s0_13 es0_13
          have hD := hDk s0_13
          have hP : va_P D classes (wM cI cZ q0 s0_13) H := by rw [es0_13]; exact PM_F8 hP
          refine lv_aload_n hx hb dX7_readPart_253 rfl (lv_at hl 1 rfl) ?_
          refine va_get (D := D) (ci := 5) (v := .ref (q0 7)) (C := RX7) (T := TX7) (N := 28) hx hb ht inX7 hown hK hP 0 eM_0 rfl 8 (by decide) (ht _ tw_663) (fun _ h9 => h9) rfl dX7_readPart_254 ?_
          refine lv_iconst (v := (3 : Int32)) hx hb dX7_readPart_257 (by decide) ?_
          refine lv_aload_n hx hb dX7_readPart_258 rfl (lv_at hl 1 rfl) ?_
          refine va_get (D := D) (ci := 5) (v := .int (s0_13.1 11)) (C := RX7) (T := TX7) (N := 28) hx hb ht inX7 hown hK hP 0 eM_0 rfl 11 (by decide) (ht _ tw_666) (fun _ h9 => h9) rfl dX7_readPart_259 ?_
          refine lv_imul hx hb dX7_readPart_262 ?_
          refine lv_iconst (v := (2 : Int32)) hx hb dX7_readPart_263 (by decide) ?_
          refine lv_iadd hx hb dX7_readPart_264 ?_
          refine lv_aload_n hx hb dX7_readPart_265 rfl (lv_at hl 1 rfl) ?_
          refine lv_bipush (v := (48 : Int32)) hx hb dX7_readPart_266 (by decide) ?_
          refine lv_bipush (v := (15 : Int32)) hx hb dX7_readPart_268 (by decide) ?_
          have hPc : va_P D classes (wM cI cZ q0 s0_13) H := hP
          have hDc : va_D A (wM cI cZ q0 s0_13) := hD
          have hFc := va_free (wc := (wM cI cZ q0 s0_13)) hD hS hA [0, 1, 2, 3, 4, 5, 6, 7, 8, 9, 10, 11, 12, 13, 14, 15] rfl
          refine va_calli (va_runV (As := [.int (48 : Int32), .int (15 : Int32)]) (rest := [.int (((3 : Int32) * (s0_13.1 11)) + (2 : Int32)), .ref (q0 7)]) ⟨hx, hb, hml, hown, hts⟩ (c_X7_told l D cI cZ cW q0 H.size (48 : Int32) (15 : Int32) s0_13 _ hf) ⟨callB_of 2 hts (gA tw_767) rfl rfl rfl (ht _ tw_7) (ht _ tw_764) hd_X7_told ⟨Nat.le_of_ble_eq_true rfl, Nat.le_of_ble_eq_true rfl⟩, ht _ tw_766, ht _ twp_20⟩ ⟨PW_blind, va_recv hK hP (ci := 5) (q0 := 0) rfl eM_0, fun U hU hW => PW_mk hPc hDc hK hU hW⟩ rfl rfl hl.1 rfl (lv_room (Nat.le_of_ble_eq_true rfl)) dX7_readPart_270 ⟨Nat.zero_le _, Nat.zero_le _⟩) hS (fun q _ h => hFc q h) hFc (fun r_15 u t H1 locs ht1 hvm hf hB hz1 hk1 hS => ?_)
          obtain ⟨s0_14, rfl⟩ : ∃ z, z = u := ⟨_, rfl⟩
          rw [ht1] at hB
          have hP := hB
          have hD := hDk s0_14
          generalize H1 = H at hP hS ⊢
          have hP : va_P D classes (wM cI cZ q0 s0_14) H := hP
          have hD : va_D A (wM cI cZ q0 s0_14) := hD
          obtain ⟨hi_16, hf⟩ := hf
          refine va_iast hx hb hK hP hD hS 7 0 eM_7 rfl hi_16 dX7_readPart_273 (fun H locs hP hD hS => ?_)
          obtain ⟨s0_17, es0_17⟩ : ∃ y : CS, y = sA s0_14 8 (((3 : Int32) * (s0_13.1 11)) + (2 : Int32)).toNatClampNeg r_15 := ⟨_, rfl⟩
          have hf := hf s0_17 es0_17
          have hD := hDk s0_17
          have hP : va_P D classes (wM cI cZ q0 s0_17) H := by rw [es0_17]; exact PM_F8 hP
          refine lv_aload_n hx hb dX7_readPart_274 rfl (lv_at hl 1 rfl) ?_
          refine lv_dup hx hb dX7_readPart_275 rfl ?_
          refine va_get (D := D) (ci := 5) (v := .int (s0_17.1 12)) (C := RX7) (T := TX7) (N := 28) hx hb ht inX7 hown hK hP 0 eM_0 rfl 12 (by decide) (ht _ tw_667) (fun _ h9 => h9) rfl dX7_readPart_276 ?_
          refine lv_iconst (v := (1 : Int32)) hx hb dX7_readPart_279 (by decide) ?_
          refine lv_iload_n hx hb dX7_readPart_280 rfl (lv_at hl 0 rfl) ?_
          refine lv_ishl hx hb dX7_readPart_281 ?_
          refine lv_ior hx hb dX7_readPart_282 ?_
          refine va_put (D := D) (ci := 5) (v := .int ((s0_17.1 12) ||| ((1 : Int32) <<< (r_7 &&& 31)))) (ty := .int) (C := RX7) (T := TX7) (N := 28) hx hb ht inX7 tyX7 tyX7_ok nmX7 hown hK hP hD hS 0 eM_0 rfl 12 (by decide) (ht _ tw_667) (fun _ h9 => h9) rfl pf_I rfl rfl (Nat.le_of_ble_eq_true rfl) dX7_readPart_283 (fun H locs hP hD hS => ?_)
          obtain ⟨s0_18, es0_18⟩ : ∃ y : CS, y = sI s0_17 12 ((s0_17.1 12) ||| ((1 : Int32) <<< (r_7 &&& 31))) := ⟨_, rfl⟩
          have hf := hf s0_18 es0_18
          have hD := hDk s0_18
          have hP : va_P D classes (wM cI cZ q0 s0_18) H := by rw [es0_18]; exact PM_I12 hP
          refine lv_aload_n hx hb dX7_readPart_286 rfl (lv_at hl 1 rfl) ?_
          refine lv_dup hx hb dX7_readPart_287 rfl ?_
          refine va_get (D := D) (ci := 5) (v := .int (s0_18.1 11)) (C := RX7) (T := TX7) (N := 28) hx hb ht inX7 hown hK hP 0 eM_0 rfl 11 (by decide) (ht _ tw_666) (fun _ h9 => h9) rfl dX7_readPart_288 ?_
          refine lv_iconst (v := (1 : Int32)) hx hb dX7_readPart_291 (by decide) ?_
          refine lv_iadd hx hb dX7_readPart_292 ?_
          refine va_put (D := D) (ci := 5) (v := .int ((s0_18.1 11) + (1 : Int32))) (ty := .int) (C := RX7) (T := TX7) (N := 28) hx hb ht inX7 tyX7 tyX7_ok nmX7 hown hK hP hD hS 0 eM_0 rfl 11 (by decide) (ht _ tw_666) (fun _ h9 => h9) rfl pf_I rfl rfl (Nat.le_of_ble_eq_true rfl) dX7_readPart_293 (fun H locs hP hD hS => ?_)
          obtain ⟨s0_19, es0_19⟩ : ∃ y : CS, y = sI s0_18 11 ((s0_18.1 11) + (1 : Int32)) := ⟨_, rfl⟩
          have hf := hf s0_19 es0_19
          have hD := hDk s0_19
          have hP : va_P D classes (wM cI cZ q0 s0_19) H := by rw [es0_19]; exact PM_I11 hP
          refine lv_goto (tgt := 307) hx hb dX7_readPart_296 (by decide) ?_
          exact W.vret hx hb hr (fun t ht hW => ⟨⟨s0_19, rfl, hf, P_heap ht hP⟩, hS.F ht⟩) hS.2.2 dX7_readPart_307
  have k_167 : ∀ (t0 : Int32) (t1 : Int32) (s0 : CS) (H : Heap) (locs : List Loc) (ls : Array Slot), B_X7_readPart_167  t0 t1 s0 Q → va_P D classes (wM cI cZ q0 s0) H → va_D A (wM cI cZ q0 s0) → va_S A s.heap H locs → lv_has ls 5 [] → W p l e (headSpec (wsA yX7_readPart cX7_readPart 5 none) ({ frames := 2, cells := 0, slots := 0, locals := 49 })).room s m (#[.ref (q0 0), .int p0] : Array Value) below meth c H locs 0 0 (MQ below (va_Qv (fun (u : CS) => Q u) (fun u t => va_P D classes (wM cI cZ q0 u) t.heap) A) (#[.ref (q0 0), .int p0] : Array Value) s 0 0 A) (F0 m 167 ls [.int t0, .int t1, .ref (q0 0)]) := by
    intro t0 t1 s0 H locs ls hf hP hD hS hl
    unfold B_X7_readPart_167 at hf
    refine lv_ior hx hb dX7_readPart_167 ?_
    refine va_put (D := D) (ci := 5) (v := .int (t1 ||| t0)) (ty := .int) (C := RX7) (T := TX7) (N := 28) hx hb ht inX7 tyX7 tyX7_ok nmX7 hown hK hP hD hS 0 eM_0 rfl 10 (by decide) (ht _ tw_665) (fun _ h9 => h9) rfl pf_I rfl rfl (Nat.le_of_ble_eq_true rfl) dX7_readPart_168 (fun H locs hP hD hS => ?_)
    obtain ⟨s0_20, es0_20⟩ : ∃ y : CS, y = sI s0 10 (t1 ||| t0) := ⟨_, rfl⟩
    have hf := hf s0_20 es0_20
    have hD := hDk s0_20
    have hP : va_P D classes (wM cI cZ q0 s0_20) H := by rw [es0_20]; exact PM_I10 hP
    refine lv_goto (tgt := 307) hx hb dX7_readPart_171 (by decide) ?_
    exact W.vret hx hb hr (fun t ht hW => ⟨⟨s0_20, rfl, hf, P_heap ht hP⟩, hS.F ht⟩) hS.2.2 dX7_readPart_307
  have k_145 : ∀ (x3 : Int32) (t0 : Int32) (t1 : Int32) (s0 : CS) (H : Heap) (locs : List Loc) (ls : Array Slot), B_X7_readPart_145  x3 t0 t1 s0 Q → va_P D classes (wM cI cZ q0 s0) H → va_D A (wM cI cZ q0 s0) → va_S A s.heap H locs → lv_has ls 5 [(0, .ref (q0 0)), (3, .int x3)] → W p l e (headSpec (wsA yX7_readPart cX7_readPart 5 none) ({ frames := 2, cells := 0, slots := 0, locals := 49 })).room s m (#[.ref (q0 0), .int p0] : Array Value) below meth c H locs 0 0 (MQ below (va_Qv (fun (u : CS) => Q u) (fun u t => va_P D classes (wM cI cZ q0 u) t.heap) A) (#[.ref (q0 0), .int p0] : Array Value) s 0 0 A) (F0 m 145 ls [.int t0, .int t1, .ref (q0 6)]) := by
    intro x3 t0 t1 s0 H locs ls hf hP hD hS hl
    unfold B_X7_readPart_145 at hf
    obtain ⟨hi_21, hf⟩ := hf
    refine va_iast hx hb hK hP hD hS 6 0 eM_6 rfl hi_21 dX7_readPart_145 (fun H locs hP hD hS => ?_)
    obtain ⟨s0_22, es0_22⟩ : ∃ y : CS, y = sA s0 7 t1.toNatClampNeg t0 := ⟨_, rfl⟩
    have hf := hf s0_22 es0_22
    have hD := hDk s0_22
    have hP : va_P D classes (wM cI cZ q0 s0_22) H := by rw [es0_22]; exact PM_F7 hP
    refine lv_aload_n hx hb dX7_readPart_146 rfl (lv_at hl 0 rfl) ?_
    refine lv_dup hx hb dX7_readPart_147 rfl ?_
    refine va_get (D := D) (ci := 5) (v := .int (s0_22.1 10)) (C := RX7) (T := TX7) (N := 28) hx hb ht inX7 hown hK hP 0 eM_0 rfl 10 (by decide) (ht _ tw_665) (fun _ h9 => h9) rfl dX7_readPart_148 ?_
    refine lv_aload_n hx hb dX7_readPart_151 rfl (lv_at hl 0 rfl) ?_
    refine va_get (D := D) (ci := 5) (v := .int (s0_22.1 16)) (C := RX7) (T := TX7) (N := 28) hx hb ht inX7 hown hK hP 0 eM_0 rfl 16 (by decide) (ht _ tw_671) (fun _ h9 => h9) rfl dX7_readPart_152 ?_
    refine lv_bipush (v := (-9 : Int32)) hx hb dX7_readPart_155 (by decide) ?_
    refine lv_icmp_ne (tgt := 166) hx hb dX7_readPart_157 (by decide) (fun c_23 => ?_) (fun c_23 => ?_)
    · have hf := hf.1 c_23
      refine lv_iconst (v := (0 : Int32)) hx hb dX7_readPart_166 (by decide) ?_
      exact k_167 (0 : Int32) (s0_22.1 10) s0_22 H locs ls hf hP hD hS (lv_sub hl [] rfl)
    · have hf := hf.2 c_23
      refine lv_iconst (v := (1 : Int32)) hx hb dX7_readPart_160 (by decide) ?_
      refine lv_iload_n hx hb dX7_readPart_161 rfl (lv_at hl 1 rfl) ?_
      refine lv_ishl hx hb dX7_readPart_162 ?_
      refine lv_goto (tgt := 167) hx hb dX7_readPart_163 (by decide) ?_
      exact k_167 ((1 : Int32) <<< (x3 &&& 31)) (s0_22.1 10) s0_22 H locs ls hf hP hD hS (lv_sub hl [] rfl)
  have k_63 : ∀ (x1 : Int32) (x2 : Int32) (s0 : CS) (H : Heap) (locs : List Loc) (ls : Array Slot), B_X7_readPart_63  x1 x2 s0 Q → va_P D classes (wM cI cZ q0 s0) H → va_D A (wM cI cZ q0 s0) → va_S A s.heap H locs → lv_has ls 5 [(0, .ref (q0 0)), (1, .int x1), (2, .int x2)] → W p l e (headSpec (wsA yX7_readPart cX7_readPart 5 none) ({ frames := 2, cells := 0, slots := 0, locals := 49 })).room s m (#[.ref (q0 0), .int p0] : Array Value) below meth c H locs 0 0 (MQ below (va_Qv (fun (u : CS) => Q u) (fun u t => va_P D classes (wM cI cZ q0 u) t.heap) A) (#[.ref (q0 0), .int p0] : Array Value) s 0 0 A) (F0 m 63 ls []) := by
    intro x1 x2 s0 H locs ls hf hP hD hS hl
    unfold B_X7_readPart_63 at hf
    refine lv_iload_n hx hb dX7_readPart_63 rfl (lv_at hl 1 rfl) ?_
    refine lv_bipush (v := (82 : Int32)) hx hb dX7_readPart_64 (by decide) ?_
    refine lv_icmp_ne (tgt := 174) hx hb dX7_readPart_66 (by decide) (fun c_24 => ?_) (fun c_24 => ?_)
    · have hf := hf.1 c_24
      exact k_174 x1 x2 s0 H locs ls hf hP hD hS (lv_sub hl [0, 1, 2] rfl)
    · have hf := hf.2 c_24
      refine lv_aload_n hx hb dX7_readPart_69 rfl (lv_at hl 0 rfl) ?_
      refine va_get (D := D) (ci := 5) (v := .int (s0.1 9)) (C := RX7) (T := TX7) (N := 28) hx hb ht inX7 hown hK hP 0 eM_0 rfl 9 (by decide) (ht _ tw_664) (fun _ h9 => h9) rfl dX7_readPart_70 ?_
      refine lv_if_le (tgt := 174) hx hb dX7_readPart_73 (by decide) (fun c_25 => ?_) (fun c_25 => ?_)
      · have hf := hf.1 c_25
        exact k_174 x1 x2 s0 H locs ls hf hP hD hS (lv_sub hl [0, 1, 2] rfl)
      · have hf := hf.2 c_25
        refine lv_aload_n hx hb dX7_readPart_76 rfl (lv_at hl 0 rfl) ?_
        refine va_get (D := D) (ci := 5) (v := .int (s0.1 10)) (C := RX7) (T := TX7) (N := 28) hx hb ht inX7 hown hK hP 0 eM_0 rfl 10 (by decide) (ht _ tw_665) (fun _ h9 => h9) rfl dX7_readPart_77 ?_
        refine lv_bipush (v := (15 : Int32)) hx hb dX7_readPart_80 (by decide) ?_
        refine lv_icmp_eq (tgt := 174) hx hb dX7_readPart_82 (by decide) (fun c_26 => ?_) (fun c_26 => ?_)
        · have hf := hf.1 c_26
          exact k_174 x1 x2 s0 H locs ls hf hP hD hS (lv_sub hl [0, 1, 2] rfl)
        · have hf := hf.2 c_26
          refine lv_aload_n hx hb dX7_readPart_85 rfl (lv_at hl 0 rfl) ?_
          refine lv_dup hx hb dX7_readPart_86 rfl ?_
          refine va_get (D := D) (ci := 5) (v := .int (s0.1 15)) (C := RX7) (T := TX7) (N := 28) hx hb ht inX7 hown hK hP 0 eM_0 rfl 15 (by decide) (ht _ tw_670) (fun _ h9 => h9) rfl dX7_readPart_87 ?_
          refine lv_iconst (v := (1 : Int32)) hx hb dX7_readPart_90 (by decide) ?_
          refine lv_iadd hx hb dX7_readPart_91 ?_
          refine va_put (D := D) (ci := 5) (v := .int ((s0.1 15) + (1 : Int32))) (ty := .int) (C := RX7) (T := TX7) (N := 28) hx hb ht inX7 tyX7 tyX7_ok nmX7 hown hK hP hD hS 0 eM_0 rfl 15 (by decide) (ht _ tw_670) (fun _ h9 => h9) rfl pf_I rfl rfl (Nat.le_of_ble_eq_true rfl) dX7_readPart_92 (fun H locs hP hD hS => ?_)
          obtain ⟨s0_27, es0_27⟩ : ∃ y : CS, y = sI s0 15 ((s0.1 15) + (1 : Int32)) := ⟨_, rfl⟩
          have hf := hf s0_27 es0_27
          have hD := hDk s0_27
          have hP : va_P D classes (wM cI cZ q0 s0_27) H := by rw [es0_27]; exact PM_I15 hP
          refine lv_aload_n hx hb dX7_readPart_95 rfl (lv_at hl 0 rfl) ?_
          refine lv_bipush (v := (48 : Int32)) hx hb dX7_readPart_96 (by decide) ?_
          refine lv_bipush (v := (15 : Int32)) hx hb dX7_readPart_98 (by decide) ?_
          refine lv_aload_n hx hb dX7_readPart_100 rfl (lv_at hl 0 rfl) ?_
          refine va_get (D := D) (ci := 5) (v := .int (s0_27.1 10)) (C := RX7) (T := TX7) (N := 28) hx hb ht inX7 hown hK hP 0 eM_0 rfl 10 (by decide) (ht _ tw_665) (fun _ h9 => h9) rfl dX7_readPart_101 ?_
          refine lv_iconst (v := (-1 : Int32)) hx hb dX7_readPart_104 (by decide) ?_
          refine lv_ixor hx hb dX7_readPart_105 ?_
          refine lv_iand hx hb dX7_readPart_106 ?_
          have hPc : va_P D classes (wM cI cZ q0 s0_27) H := hP
          have hDc : va_D A (wM cI cZ q0 s0_27) := hD
          have hFc := va_free (wc := (wM cI cZ q0 s0_27)) hD hS hA [0, 1, 2, 3, 4, 5, 6, 7, 8, 9, 10, 11, 12, 13, 14, 15] rfl
          refine va_calli (va_runV (As := [.int (48 : Int32), .int ((15 : Int32) &&& ((s0_27.1 10) ^^^ (-1 : Int32)))]) (rest := []) ⟨hx, hb, hml, hown, hts⟩ (c_X7_told l D cI cZ cW q0 H.size (48 : Int32) ((15 : Int32) &&& ((s0_27.1 10) ^^^ (-1 : Int32))) s0_27 _ hf) ⟨callB_of 2 hts (gA tw_767) rfl rfl rfl (ht _ tw_7) (ht _ tw_764) hd_X7_told ⟨Nat.le_of_ble_eq_true rfl, Nat.le_of_ble_eq_true rfl⟩, ht _ tw_766, ht _ twp_20⟩ ⟨PW_blind, va_recv hK hP (ci := 5) (q0 := 0) rfl eM_0, fun U hU hW => PW_mk hPc hDc hK hU hW⟩ rfl rfl hl.1 rfl (lv_room (Nat.le_of_ble_eq_true rfl)) dX7_readPart_107 ⟨Nat.zero_le _, Nat.zero_le _⟩) hS (fun q _ h => hFc q h) hFc (fun r_29 u t H1 locs ht1 hvm hf hB hz1 hk1 hS => ?_)
          obtain ⟨s0_28, rfl⟩ : ∃ z, z = u := ⟨_, rfl⟩
          rw [ht1] at hB
          have hP := hB
          have hD := hDk s0_28
          generalize H1 = H at hP hS ⊢
          have hP : va_P D classes (wM cI cZ q0 s0_28) H := hP
          have hD : va_D A (wM cI cZ q0 s0_28) := hD
          refine lv_istore_n (lv' := [(3, .int r_29), (0, .ref (q0 0)), (1, .int x1), (2, .int x2)]) hx hb dX7_readPart_110 rfl hl (by decide) rfl (fun ls hl => ?_)
          refine lv_aload_n hx hb dX7_readPart_111 rfl (lv_at hl 1 rfl) ?_
          refine lv_bipush (v := (48 : Int32)) hx hb dX7_readPart_112 (by decide) ?_
          refine lv_iload_n hx hb dX7_readPart_114 rfl (lv_at hl 3 rfl) ?_
          have hPc : va_P D classes (wM cI cZ q0 s0_28) H := hP
          have hDc : va_D A (wM cI cZ q0 s0_28) := hD
          have hFc := va_free (wc := (wM cI cZ q0 s0_28)) hD hS hA [0, 1, 2, 3, 4, 5, 6, 7, 8, 9, 10, 11, 12, 13, 14, 15] rfl
          refine va_calli (va_runV (As := [.int (48 : Int32), .int x2]) (rest := []) ⟨hx, hb, hml, hown, hts⟩ (c_X7_told l D cI cZ cW q0 H.size (48 : Int32) x2 s0_28 _ hf) ⟨callB_of 2 hts (gA tw_767) rfl rfl rfl (ht _ tw_7) (ht _ tw_764) hd_X7_told ⟨Nat.le_of_ble_eq_true rfl, Nat.le_of_ble_eq_true rfl⟩, ht _ tw_766, ht _ twp_20⟩ ⟨PW_blind, va_recv hK hP (ci := 5) (q0 := 0) rfl eM_0, fun U hU hW => PW_mk hPc hDc hK hU hW⟩ rfl rfl hl.1 rfl (lv_room (Nat.le_of_ble_eq_true rfl)) dX7_readPart_115 ⟨Nat.zero_le _, Nat.zero_le _⟩) hS (fun q _ h => hFc q h) hFc (fun r_31 u t H1 locs ht1 hvm hf hB hz1 hk1 hS => ?_)
          obtain ⟨s0_30, rfl⟩ : ∃ z, z = u := ⟨_, rfl⟩
          rw [ht1] at hB
          have hP := hB
          have hD := hDk s0_30
          generalize H1 = H at hP hS ⊢
          have hP : va_P D classes (wM cI cZ q0 s0_30) H := hP
          have hD : va_D A (wM cI cZ q0 s0_30) := hD
          refine lv_istore (lv' := [(4, .int r_31), (3, .int r_29), (0, .ref (q0 0)), (1, .int x1), (2, .int x2)]) hx hb dX7_readPart_118 hl (by decide) rfl (fun ls hl => ?_)
          refine lv_aload_n hx hb dX7_readPart_120 rfl (lv_at hl 2 rfl) ?_
          refine va_get (D := D) (ci := 5) (v := .ref (q0 6)) (C := RX7) (T := TX7) (N := 28) hx hb ht inX7 hown hK hP 0 eM_0 rfl 7 (by decide) (ht _ tw_662) (fun _ h9 => h9) rfl dX7_readPart_121 ?_
          refine lv_iload_n hx hb dX7_readPart_124 rfl (lv_at hl 1 rfl) ?_
          refine lv_aload_n hx hb dX7_readPart_125 rfl (lv_at hl 2 rfl) ?_
          refine va_get (D := D) (ci := 5) (v := .int (s0_30.1 16)) (C := RX7) (T := TX7) (N := 28) hx hb ht inX7 hown hK hP 0 eM_0 rfl 16 (by decide) (ht _ tw_671) (fun _ h9 => h9) rfl dX7_readPart_126 ?_
          refine lv_bipush (v := (-9 : Int32)) hx hb dX7_readPart_129 (by decide) ?_
          refine lv_icmp_ne (tgt := 139) hx hb dX7_readPart_131 (by decide) (fun c_32 => ?_) (fun c_32 => ?_)
          · have hf := hf.1 c_32
            refine lv_aload_n hx hb dX7_readPart_139 rfl (lv_at hl 2 rfl) ?_
            refine va_get (D := D) (ci := 5) (v := .ref (q0 6)) (C := RX7) (T := TX7) (N := 28) hx hb ht inX7 hown hK hP 0 eM_0 rfl 7 (by decide) (ht _ tw_662) (fun _ h9 => h9) rfl dX7_readPart_140 ?_
            refine lv_iload_n hx hb dX7_readPart_143 rfl (lv_at hl 1 rfl) ?_
            obtain ⟨hi_33, hf⟩ := hf
            refine va_iald hx hb hK hP 6 0 eM_6 rfl hi_33 dX7_readPart_144 ?_
            exact k_145 r_29 ((s0_30.2.1 7) r_29.toNatClampNeg) r_29 s0_30 H locs ls hf hP hD hS (lv_sub hl [2, 1] rfl)
          · have hf := hf.2 c_32
            refine lv_iload hx hb dX7_readPart_134 (lv_at hl 0 rfl) ?_
            refine lv_goto (tgt := 145) hx hb dX7_readPart_136 (by decide) ?_
            exact k_145 r_29 r_31 r_29 s0_30 H locs ls hf hP hD hS (lv_sub hl [2, 1] rfl)
  have start : ∀ (H : Heap) (locs : List Loc), va_P D classes (wM cI cZ q0 s0) H → va_D A (wM cI cZ q0 s0) → va_S A s.heap H locs → W p l e (headSpec (wsA yX7_readPart cX7_readPart 5 none) ({ frames := 2, cells := 0, slots := 0, locals := 49 })).room s m (#[.ref (q0 0), .int p0] : Array Value) below meth c H locs 0 0 (MQ below (va_Qv (fun (u : CS) => Q u) (fun u t => va_P D classes (wM cI cZ q0 u) t.heap) A) (#[.ref (q0 0), .int p0] : Array Value) s 0 0 A) (F0 m 0 ls []) := by
    intro H locs hP hD hS
    refine lv_iconst (v := (1 : Int32)) hx hb dX7_readPart_0 (by decide) ?_
    refine lv_aload_n hx hb dX7_readPart_1 rfl (lv_at hl 0 rfl) ?_
    refine va_get (D := D) (ci := 5) (v := .int (s0.1 9)) (C := RX7) (T := TX7) (N := 28) hx hb ht inX7 hown hK hP 0 eM_0 rfl 9 (by decide) (ht _ tw_664) (fun _ h9 => h9) rfl dX7_readPart_2 ?_
    refine lv_ishl hx hb dX7_readPart_5 ?_
    refine lv_iconst (v := (1 : Int32)) hx hb dX7_readPart_6 (by decide) ?_
    refine lv_isub hx hb dX7_readPart_7 ?_
    refine lv_topi (fun x2_34 ex2_34 => ?_)
    have hf := hf x2_34 ex2_34
    refine lv_istore_n (lv' := [(2, .int x2_34), (0, .ref (q0 0)), (1, .int p0)]) hx hb dX7_readPart_8 rfl hl (by decide) rfl (fun ls hl => ?_)
    refine lv_iload_n hx hb dX7_readPart_9 rfl (lv_at hl 2 rfl) ?_
    refine lv_bipush (v := (79 : Int32)) hx hb dX7_readPart_10 (by decide) ?_
    refine lv_icmp_ne (tgt := 63) hx hb dX7_readPart_12 (by decide) (fun c_35 => ?_) (fun c_35 => ?_)
    · have hf := hf.1 c_35
      exact k_63 p0 x2_34 s0 H locs ls hf hP hD hS (lv_sub hl [1, 2, 0] rfl)
    · have hf := hf.2 c_35
      refine lv_aload_n hx hb dX7_readPart_15 rfl (lv_at hl 1 rfl) ?_
      refine va_get (D := D) (ci := 5) (v := .int (s0.1 9)) (C := RX7) (T := TX7) (N := 28) hx hb ht inX7 hown hK hP 0 eM_0 rfl 9 (by decide) (ht _ tw_664) (fun _ h9 => h9) rfl dX7_readPart_16 ?_
      refine lv_iconst (v := (4 : Int32)) hx hb dX7_readPart_19 (by decide) ?_
      refine lv_icmp_ge (tgt := 63) hx hb dX7_readPart_20 (by decide) (fun c_36 => ?_) (fun c_36 => ?_)
      · have hf := hf.1 c_36
        exact k_63 p0 x2_34 s0 H locs ls hf hP hD hS (lv_sub hl [1, 2, 0] rfl)
      · have hf := hf.2 c_36
        refine lv_aload_n hx hb dX7_readPart_23 rfl (lv_at hl 1 rfl) ?_
        refine lv_dup hx hb dX7_readPart_24 rfl ?_
        refine va_get (D := D) (ci := 5) (v := .int (s0.1 15)) (C := RX7) (T := TX7) (N := 28) hx hb ht inX7 hown hK hP 0 eM_0 rfl 15 (by decide) (ht _ tw_670) (fun _ h9 => h9) rfl dX7_readPart_25 ?_
        refine lv_iconst (v := (1 : Int32)) hx hb dX7_readPart_28 (by decide) ?_
        refine lv_iadd hx hb dX7_readPart_29 ?_
        refine va_put (D := D) (ci := 5) (v := .int ((s0.1 15) + (1 : Int32))) (ty := .int) (C := RX7) (T := TX7) (N := 28) hx hb ht inX7 tyX7 tyX7_ok nmX7 hown hK hP hD hS 0 eM_0 rfl 15 (by decide) (ht _ tw_670) (fun _ h9 => h9) rfl pf_I rfl rfl (Nat.le_of_ble_eq_true rfl) dX7_readPart_30 (fun H locs hP hD hS => ?_)
        obtain ⟨s0_37, es0_37⟩ : ∃ y : CS, y = sI s0 15 ((s0.1 15) + (1 : Int32)) := ⟨_, rfl⟩
        have hf := hf s0_37 es0_37
        have hD := hDk s0_37
        have hP : va_P D classes (wM cI cZ q0 s0_37) H := by rw [es0_37]; exact PM_I15 hP
        refine lv_aload_n hx hb dX7_readPart_33 rfl (lv_at hl 1 rfl) ?_
        refine va_get (D := D) (ci := 5) (v := .ref (q0 5)) (C := RX7) (T := TX7) (N := 28) hx hb ht inX7 hown hK hP 0 eM_0 rfl 6 (by decide) (ht _ tw_661) (fun _ h9 => h9) rfl dX7_readPart_34 ?_
        refine lv_aload_n hx hb dX7_readPart_37 rfl (lv_at hl 1 rfl) ?_
        refine va_get (D := D) (ci := 5) (v := .int (s0_37.1 9)) (C := RX7) (T := TX7) (N := 28) hx hb ht inX7 hown hK hP 0 eM_0 rfl 9 (by decide) (ht _ tw_664) (fun _ h9 => h9) rfl dX7_readPart_38 ?_
        refine lv_aload_n hx hb dX7_readPart_41 rfl (lv_at hl 1 rfl) ?_
        refine lv_bipush (v := (48 : Int32)) hx hb dX7_readPart_42 (by decide) ?_
        refine lv_bipush (v := (15 : Int32)) hx hb dX7_readPart_44 (by decide) ?_
        have hPc : va_P D classes (wM cI cZ q0 s0_37) H := hP
        have hDc : va_D A (wM cI cZ q0 s0_37) := hD
        have hFc := va_free (wc := (wM cI cZ q0 s0_37)) hD hS hA [0, 1, 2, 3, 4, 5, 6, 7, 8, 9, 10, 11, 12, 13, 14, 15] rfl
        refine va_calli (va_runV (As := [.int (48 : Int32), .int (15 : Int32)]) (rest := [.int (s0_37.1 9), .ref (q0 5)]) ⟨hx, hb, hml, hown, hts⟩ (c_X7_told l D cI cZ cW q0 H.size (48 : Int32) (15 : Int32) s0_37 _ hf) ⟨callB_of 2 hts (gA tw_767) rfl rfl rfl (ht _ tw_7) (ht _ tw_764) hd_X7_told ⟨Nat.le_of_ble_eq_true rfl, Nat.le_of_ble_eq_true rfl⟩, ht _ tw_766, ht _ twp_20⟩ ⟨PW_blind, va_recv hK hP (ci := 5) (q0 := 0) rfl eM_0, fun U hU hW => PW_mk hPc hDc hK hU hW⟩ rfl rfl hl.1 rfl (lv_room (Nat.le_of_ble_eq_true rfl)) dX7_readPart_46 ⟨Nat.zero_le _, Nat.zero_le _⟩) hS (fun q _ h => hFc q h) hFc (fun r_39 u t H1 locs ht1 hvm hf hB hz1 hk1 hS => ?_)
        obtain ⟨s0_38, rfl⟩ : ∃ z, z = u := ⟨_, rfl⟩
        rw [ht1] at hB
        have hP := hB
        have hD := hDk s0_38
        generalize H1 = H at hP hS ⊢
        have hP : va_P D classes (wM cI cZ q0 s0_38) H := hP
        have hD : va_D A (wM cI cZ q0 s0_38) := hD
        obtain ⟨hi_40, hf⟩ := hf
        refine va_iast hx hb hK hP hD hS 5 0 eM_5 rfl hi_40 dX7_readPart_49 (fun H locs hP hD hS => ?_)
        obtain ⟨s0_41, es0_41⟩ : ∃ y : CS, y = sA s0_38 6 (s0_37.1 9).toNatClampNeg r_39 := ⟨_, rfl⟩
        have hf := hf s0_41 es0_41
        have hD := hDk s0_41
        have hP : va_P D classes (wM cI cZ q0 s0_41) H := by rw [es0_41]; exact PM_F6 hP
        refine lv_aload_n hx hb dX7_readPart_50 rfl (lv_at hl 1 rfl) ?_
        refine lv_dup hx hb dX7_readPart_51 rfl ?_
        refine va_get (D := D) (ci := 5) (v := .int (s0_41.1 9)) (C := RX7) (T := TX7) (N := 28) hx hb ht inX7 hown hK hP 0 eM_0 rfl 9 (by decide) (ht _ tw_664) (fun _ h9 => h9) rfl dX7_readPart_52 ?_
        refine lv_iconst (v := (1 : Int32)) hx hb dX7_readPart_55 (by decide) ?_
        refine lv_iadd hx hb dX7_readPart_56 ?_
        refine va_put (D := D) (ci := 5) (v := .int ((s0_41.1 9) + (1 : Int32))) (ty := .int) (C := RX7) (T := TX7) (N := 28) hx hb ht inX7 tyX7 tyX7_ok nmX7 hown hK hP hD hS 0 eM_0 rfl 9 (by decide) (ht _ tw_664) (fun _ h9 => h9) rfl pf_I rfl rfl (Nat.le_of_ble_eq_true rfl) dX7_readPart_57 (fun H locs hP hD hS => ?_)
        obtain ⟨s0_42, es0_42⟩ : ∃ y : CS, y = sI s0_41 9 ((s0_41.1 9) + (1 : Int32)) := ⟨_, rfl⟩
        have hf := hf s0_42 es0_42
        have hD := hDk s0_42
        have hP : va_P D classes (wM cI cZ q0 s0_42) H := by rw [es0_42]; exact PM_I9 hP
        refine lv_goto (tgt := 307) hx hb dX7_readPart_60 (by decide) ?_
        exact W.vret hx hb hr (fun t ht hW => ⟨⟨s0_42, rfl, hf, P_heap ht hP⟩, hS.F ht⟩) hS.2.2 dX7_readPart_307
  exact start s.heap [] hP hD hS
def B_X7_readText_113  (s0 : CS) (Q : Int32 → CS → Prop) : Prop := Q (s0.1 16) s0
def LB_X7_readText_77 (G77 : (CS) → Prop)  (s0 : CS) (Q : Int32 → CS → Prop) : Prop := ((¬ (s0.1 16) = (-9 : Int32) → B_X7_readText_113  s0 Q) ∧ ((s0.1 16) = (-9 : Int32) → (((s0.1 14) ≤ (s0.1 15) → B_X7_readText_113  s0 Q) ∧ (¬ (s0.1 14) ≤ (s0.1 15) → vp_in (s0.1 15) 48 ∧ wp_X7_readPart ((s0.2.1 13) (s0.1 15).toNatClampNeg) s0 (fun s0_4 => G77 s0_4)))))
def B_X7_readText_77  (s0 : CS) (Q : Int32 → CS → Prop) : Prop := LOOP (fun (G77 : (CS) → Prop) z => LB_X7_readText_77 G77  z Q) s0
def LB_X7_readText_33 (G33 : (Int32 × CS) → Prop)  (x1 : Int32) (s0 : CS) (Q : Int32 → CS → Prop) : Prop := (((4 : Int32) ≤ x1 → (((s0.1 14) = 0 → Q (0 : Int32) s0) ∧ (¬ (s0.1 14) = 0 → vp_in (0 : Int32) 48 ∧ ((((s0.2.1 13) (0 : Int32).toNatClampNeg) = (68 : Int32) → ∀ s0_9 : CS, s0_9 = sI s0 15 (1 : Int32) → B_X7_readText_77  s0_9 Q) ∧ (¬ ((s0.2.1 13) (0 : Int32).toNatClampNeg) = (68 : Int32) → Q (0 : Int32) s0))))) ∧ (¬ (4 : Int32) ≤ x1 → vp_in x1 4 ∧ ∀ s0_11 : CS, s0_11 = sA s0 7 x1.toNatClampNeg (-9 : Int32) → ∀ x1_12 : Int32, x1_12 = x1 + (1 : Int32) → G33 (x1_12, s0_11)))
def B_X7_readText_33  (x1 : Int32) (s0 : CS) (Q : Int32 → CS → Prop) : Prop := LOOP (fun (G33 : (Int32 × CS) → Prop) z => LB_X7_readText_33 G33  z.1 z.2 Q) (x1, s0)
def wp_X7_readText (s0 : CS) (Q : Int32 → CS → Prop) : Prop := ∀ s0_13 : CS, s0_13 = sI s0 15 (0 : Int32) → ∀ s0_14 : CS, s0_14 = sI s0_13 16 (-9 : Int32) → ∀ s0_15 : CS, s0_15 = sI s0_14 9 (0 : Int32) → ∀ s0_16 : CS, s0_16 = sI s0_15 10 (0 : Int32) → ∀ s0_17 : CS, s0_17 = sI s0_16 11 (0 : Int32) → ∀ s0_18 : CS, s0_18 = sI s0_17 12 (0 : Int32) → B_X7_readText_33  (0 : Int32) s0_18 Q
set_option maxHeartbeats 4000000 in
set_option maxRecDepth 100000 in
theorem c_X7_readText (l : Launch) (D : va_G) (cI cZ cW : ClassId) (q0 : Nat → Nat) (sz : Nat) (s0 : CS) (Q : Int32 → CS → Prop) (hf : wp_X7_readText s0 Q) : Met l yX7_readText (wsA yX7_readText cX7_readText 2 (some .int)) ({ frames := 3, cells := 0, slots := 0, locals := 73 }) (PW D cI cZ cW [.ref (q0 0)] (wM cI cZ q0 s0) sz) (va_Qi (fun (r : Int32) (u : CS) => Q r u) (fun u t => va_P D classes (wM cI cZ q0 u) t.heap) (va_A (wM cI cZ q0 s0) sz)) 0 0 (va_A (wM cI cZ q0 s0) sz) := by
  refine Met.ofW (cc := cX7_readText) (maxL := 2) (ret := (some .int)) (by decide) rfl ?_
  intro p e s m args below meth c s₁ B hml hv
  obtain ⟨rfl, hsz, hP, hK, hD0⟩ := hv
  have hx := B.exec
  have hb := B.bytes
  have hr := B.returns
  have hts := atoms_spec (ws := (wsA yX7_readText cX7_readText 2 (some .int))) B.pre
  have ht : ∀ w ∈ lw_g, w.before _ s = true := fun w h => hts w (List.mem_cons_of_mem _ h)
  have hown : s.vm.findClass RX7 = some m.cls := findClass_of_methodNamed B.named
  have hlocks := B.notSynchronized
  subst hsz
  have hD := hD0.self (sz := s.heap.size)
  generalize hAe : va_A (wM cI cZ q0 s0) s.heap.size = A at hD ⊢
  have hA : ∀ q : Nat, s.heap.size ≤ q → A q := fun q h => by rw [← hAe]; exact Or.inr h
  have hS : va_S A s.heap s.heap [] := va_S.rf
  have hDk : ∀ w : CS, va_D A (wM cI cZ q0 w) := fun w => D_M hD
  have hl := lv_entry ([.ref (q0 0)]) (n := 2) (Nat.le_of_ble_eq_true rfl)
  rw [lg_entry_eq]
  generalize (lg_sl ([.ref (q0 0)]) ++ List.replicate (2 - (lg_sl ([.ref (q0 0)])).length) Slot.unset).toArray = ls at hl ⊢
  have hl : lv_has ls 2 [(0, .ref (q0 0))] := hl
  unfold wp_X7_readText at hf
  have k_113 : ∀ (s0 : CS) (H : Heap) (locs : List Loc) (ls : Array Slot), B_X7_readText_113  s0 Q → va_P D classes (wM cI cZ q0 s0) H → va_D A (wM cI cZ q0 s0) → va_S A s.heap H locs → lv_has ls 2 [(0, .ref (q0 0))] → W p l e (headSpec (wsA yX7_readText cX7_readText 2 (some .int)) ({ frames := 3, cells := 0, slots := 0, locals := 73 })).room s m (#[.ref (q0 0)] : Array Value) below meth c H locs 0 0 (MQ below (va_Qi (fun (r : Int32) (u : CS) => Q r u) (fun u t => va_P D classes (wM cI cZ q0 u) t.heap) A) (#[.ref (q0 0)] : Array Value) s 0 0 A) (F0 m 113 ls []) := by
    intro s0 H locs ls hf hP hD hS hl
    unfold B_X7_readText_113 at hf
    refine lv_aload_n hx hb dX7_readText_113 rfl (lv_at hl 0 rfl) ?_
    refine va_get (D := D) (ci := 5) (v := .int (s0.1 16)) (C := RX7) (T := TX7) (N := 28) hx hb ht inX7 hown hK hP 0 eM_0 rfl 16 (by decide) (ht _ tw_671) (fun _ h9 => h9) rfl dX7_readText_114 ?_
    exact W.iret (v := (s0.1 16)) hx hb hr (fun t ht hW => ⟨⟨(s0.1 16), s0, rfl, hf, P_heap ht hP⟩, hS.F ht⟩) hS.2.2 dX7_readText_117
  have k_77 : ∀ (s0 : CS) (H : Heap) (locs : List Loc) (ls : Array Slot), B_X7_readText_77  s0 Q → va_P D classes (wM cI cZ q0 s0) H → va_D A (wM cI cZ q0 s0) → va_S A s.heap H locs → lv_has ls 2 [(0, .ref (q0 0))] → W p l e (headSpec (wsA yX7_readText cX7_readText 2 (some .int)) ({ frames := 3, cells := 0, slots := 0, locals := 73 })).room s m (#[.ref (q0 0)] : Array Value) below meth c H locs 0 0 (MQ below (va_Qi (fun (r : Int32) (u : CS) => Q r u) (fun u t => va_P D classes (wM cI cZ q0 u) t.heap) A) (#[.ref (q0 0)] : Array Value) s 0 0 A) (F0 m 77 ls []) := by
    intro s0 H locs ls hf hP hD hS hl
    unfold B_X7_readText_77 at hf
    obtain ⟨I_77, ⟨n0_77, hI0_77⟩, hst_77⟩ := hf
    have main_77 : ∀ (n : Nat) (s0 : CS) (H : Heap) (locs : List Loc) (ls : Array Slot), I_77 n s0 → va_P D classes (wM cI cZ q0 s0) H → va_D A (wM cI cZ q0 s0) → va_S A s.heap H locs → lv_has ls 2 [(0, .ref (q0 0))] → W p l e (headSpec (wsA yX7_readText cX7_readText 2 (some .int)) ({ frames := 3, cells := 0, slots := 0, locals := 73 })).room s m (#[.ref (q0 0)] : Array Value) below meth c H locs 0 0 (MQ below (va_Qi (fun (r : Int32) (u : CS) => Q r u) (fun u t => va_P D classes (wM cI cZ q0 u) t.heap) A) (#[.ref (q0 0)] : Array Value) s 0 0 A) (F0 m 77 ls []) := by
      intro n
      induction n using Nat.strongRecOn with
      | _ n_77 ih_77 =>
      intro s0 H locs ls hI hP hD hS hl
      have hf : LB_X7_readText_77 (fun z => ∃ k, k < n_77 ∧ I_77 k z)  s0 Q := hst_77 n_77 s0 hI
      have hG_77 : ∀ (s0 : CS) (H : Heap) (locs : List Loc) (ls : Array Slot), (∃ k, k < n_77 ∧ I_77 k s0) → va_P D classes (wM cI cZ q0 s0) H → va_D A (wM cI cZ q0 s0) → va_S A s.heap H locs → lv_has ls 2 [(0, .ref (q0 0))] → W p l e (headSpec (wsA yX7_readText cX7_readText 2 (some .int)) ({ frames := 3, cells := 0, slots := 0, locals := 73 })).room s m (#[.ref (q0 0)] : Array Value) below meth c H locs 0 0 (MQ below (va_Qi (fun (r : Int32) (u : CS) => Q r u) (fun u t => va_P D classes (wM cI cZ q0 u) t.heap) A) (#[.ref (q0 0)] : Array Value) s 0 0 A) (F0 m 77 ls []) := by
        rintro s0 H locs ls ⟨k, hk, hI⟩ hP hD hS hl
        exact ih_77 k hk s0 H locs ls hI hP hD hS hl
      unfold LB_X7_readText_77 at hf
      refine lv_aload_n hx hb dX7_readText_77 rfl (lv_at hl 0 rfl) ?_
      refine va_get (D := D) (ci := 5) (v := .int (s0.1 16)) (C := RX7) (T := TX7) (N := 28) hx hb ht inX7 hown hK hP 0 eM_0 rfl 16 (by decide) (ht _ tw_671) (fun _ h9 => h9) rfl dX7_readText_78 ?_
      refine lv_bipush (v := (-9 : Int32)) hx hb dX7_readText_81 (by decide) ?_
      refine lv_icmp_ne (tgt := 113) hx hb dX7_readText_83 (by decide) (fun c_1 => ?_) (fun c_1 => ?_)
      · have hf := hf.1 c_1
        exact k_113 s0 H locs ls hf hP hD hS (lv_sub hl [0] rfl)
      · have hf := hf.2 c_1
        refine lv_aload_n hx hb dX7_readText_86 rfl (lv_at hl 0 rfl) ?_
        refine va_get (D := D) (ci := 5) (v := .int (s0.1 15)) (C := RX7) (T := TX7) (N := 28) hx hb ht inX7 hown hK hP 0 eM_0 rfl 15 (by decide) (ht _ tw_670) (fun _ h9 => h9) rfl dX7_readText_87 ?_
        refine lv_aload_n hx hb dX7_readText_90 rfl (lv_at hl 0 rfl) ?_
        refine va_get (D := D) (ci := 5) (v := .int (s0.1 14)) (C := RX7) (T := TX7) (N := 28) hx hb ht inX7 hown hK hP 0 eM_0 rfl 14 (by decide) (ht _ tw_669) (fun _ h9 => h9) rfl dX7_readText_91 ?_
        refine lv_icmp_ge (tgt := 113) hx hb dX7_readText_94 (by decide) (fun c_2 => ?_) (fun c_2 => ?_)
        · have hf := hf.1 c_2
          exact k_113 s0 H locs ls hf hP hD hS (lv_sub hl [0] rfl)
        · have hf := hf.2 c_2
          refine lv_aload_n hx hb dX7_readText_97 rfl (lv_at hl 0 rfl) ?_
          refine lv_aload_n hx hb dX7_readText_98 rfl (lv_at hl 0 rfl) ?_
          refine va_get (D := D) (ci := 5) (v := .ref (q0 8)) (C := RX7) (T := TX7) (N := 28) hx hb ht inX7 hown hK hP 0 eM_0 rfl 13 (by decide) (ht _ tw_668) (fun _ h9 => h9) rfl dX7_readText_99 ?_
          refine lv_aload_n hx hb dX7_readText_102 rfl (lv_at hl 0 rfl) ?_
          refine va_get (D := D) (ci := 5) (v := .int (s0.1 15)) (C := RX7) (T := TX7) (N := 28) hx hb ht inX7 hown hK hP 0 eM_0 rfl 15 (by decide) (ht _ tw_670) (fun _ h9 => h9) rfl dX7_readText_103 ?_
          obtain ⟨hi_3, hf⟩ := hf
          refine va_iald hx hb hK hP 8 0 eM_8 rfl hi_3 dX7_readText_106 ?_
          have hPc : va_P D classes (wM cI cZ q0 s0) H := hP
          have hDc : va_D A (wM cI cZ q0 s0) := hD
          have hFc := va_free (wc := (wM cI cZ q0 s0)) hD hS hA [0, 1, 2, 3, 4, 5, 6, 7, 8, 9, 10, 11, 12, 13, 14, 15] rfl
          refine va_callv (va_runV (As := [.int ((s0.2.1 13) (s0.1 15).toNatClampNeg)]) (rest := []) ⟨hx, hb, hml, hown, hts⟩ (c_X7_readPart l D cI cZ cW q0 H.size ((s0.2.1 13) (s0.1 15).toNatClampNeg) s0 _ hf) ⟨callB_of 1 hts (gA tw_763) rfl rfl rfl (ht _ tw_7) (ht _ tw_760) hd_X7_readPart ⟨Nat.le_of_ble_eq_true rfl, Nat.le_of_ble_eq_true rfl⟩, ht _ tw_762, ht _ twp_19⟩ ⟨PW_blind, va_recv hK hP (ci := 5) (q0 := 0) rfl eM_0, fun U hU hW => PW_mk hPc hDc hK hU hW⟩ rfl rfl hl.1 rfl (lv_room (Nat.le_of_ble_eq_true rfl)) dX7_readText_107 ⟨Nat.zero_le _, Nat.zero_le _⟩) hS (fun q _ h => hFc q h) hFc (fun u t H1 locs ht1 hvm hf hB hz1 hk1 hS => ?_)
          obtain ⟨s0_4, rfl⟩ : ∃ z, z = u := ⟨_, rfl⟩
          rw [ht1] at hB
          have hP := hB
          have hD := hDk s0_4
          generalize H1 = H at hP hS ⊢
          have hP : va_P D classes (wM cI cZ q0 s0_4) H := hP
          have hD : va_D A (wM cI cZ q0 s0_4) := hD
          refine lv_goto (tgt := 77) hx hb dX7_readText_110 (by decide) ?_
          exact hG_77 s0_4 H locs ls hf hP hD hS (lv_sub hl [0] rfl)
    exact main_77 n0_77 s0 H locs ls hI0_77 hP hD hS hl
  have k_33 : ∀ (x1 : Int32) (s0 : CS) (H : Heap) (locs : List Loc) (ls : Array Slot), B_X7_readText_33  x1 s0 Q → va_P D classes (wM cI cZ q0 s0) H → va_D A (wM cI cZ q0 s0) → va_S A s.heap H locs → lv_has ls 2 [(0, .ref (q0 0)), (1, .int x1)] → W p l e (headSpec (wsA yX7_readText cX7_readText 2 (some .int)) ({ frames := 3, cells := 0, slots := 0, locals := 73 })).room s m (#[.ref (q0 0)] : Array Value) below meth c H locs 0 0 (MQ below (va_Qi (fun (r : Int32) (u : CS) => Q r u) (fun u t => va_P D classes (wM cI cZ q0 u) t.heap) A) (#[.ref (q0 0)] : Array Value) s 0 0 A) (F0 m 33 ls []) := by
    intro x1 s0 H locs ls hf hP hD hS hl
    unfold B_X7_readText_33 at hf
    obtain ⟨I_33, ⟨n0_33, hI0_33⟩, hst_33⟩ := hf
    have main_33 : ∀ (n : Nat) (x1 : Int32) (s0 : CS) (H : Heap) (locs : List Loc) (ls : Array Slot), I_33 n (x1, s0) → va_P D classes (wM cI cZ q0 s0) H → va_D A (wM cI cZ q0 s0) → va_S A s.heap H locs → lv_has ls 2 [(0, .ref (q0 0)), (1, .int x1)] → W p l e (headSpec (wsA yX7_readText cX7_readText 2 (some .int)) ({ frames := 3, cells := 0, slots := 0, locals := 73 })).room s m (#[.ref (q0 0)] : Array Value) below meth c H locs 0 0 (MQ below (va_Qi (fun (r : Int32) (u : CS) => Q r u) (fun u t => va_P D classes (wM cI cZ q0 u) t.heap) A) (#[.ref (q0 0)] : Array Value) s 0 0 A) (F0 m 33 ls []) := by
      intro n
      induction n using Nat.strongRecOn with
      | _ n_33 ih_33 =>
      intro x1 s0 H locs ls hI hP hD hS hl
      have hf : LB_X7_readText_33 (fun z => ∃ k, k < n_33 ∧ I_33 k z)  x1 s0 Q := hst_33 n_33 (x1, s0) hI
      have hG_33 : ∀ (x1 : Int32) (s0 : CS) (H : Heap) (locs : List Loc) (ls : Array Slot), (∃ k, k < n_33 ∧ I_33 k (x1, s0)) → va_P D classes (wM cI cZ q0 s0) H → va_D A (wM cI cZ q0 s0) → va_S A s.heap H locs → lv_has ls 2 [(0, .ref (q0 0)), (1, .int x1)] → W p l e (headSpec (wsA yX7_readText cX7_readText 2 (some .int)) ({ frames := 3, cells := 0, slots := 0, locals := 73 })).room s m (#[.ref (q0 0)] : Array Value) below meth c H locs 0 0 (MQ below (va_Qi (fun (r : Int32) (u : CS) => Q r u) (fun u t => va_P D classes (wM cI cZ q0 u) t.heap) A) (#[.ref (q0 0)] : Array Value) s 0 0 A) (F0 m 33 ls []) := by
        rintro x1 s0 H locs ls ⟨k, hk, hI⟩ hP hD hS hl
        exact ih_33 k hk x1 s0 H locs ls hI hP hD hS hl
      unfold LB_X7_readText_33 at hf
      refine lv_iload_n hx hb dX7_readText_33 rfl (lv_at hl 1 rfl) ?_
      refine lv_iconst (v := (4 : Int32)) hx hb dX7_readText_34 (by decide) ?_
      refine lv_icmp_ge (tgt := 52) hx hb dX7_readText_35 (by decide) (fun c_5 => ?_) (fun c_5 => ?_)
      · have hf := hf.1 c_5
        refine lv_aload_n hx hb dX7_readText_52 rfl (lv_at hl 0 rfl) ?_
        refine va_get (D := D) (ci := 5) (v := .int (s0.1 14)) (C := RX7) (T := TX7) (N := 28) hx hb ht inX7 hown hK hP 0 eM_0 rfl 14 (by decide) (ht _ tw_669) (fun _ h9 => h9) rfl dX7_readText_53 ?_
        refine lv_if_eq (tgt := 70) hx hb dX7_readText_56 (by decide) (fun c_6 => ?_) (fun c_6 => ?_)
        · have hf := hf.1 c_6
          refine lv_iconst (v := (0 : Int32)) hx hb dX7_readText_70 (by decide) ?_
          exact W.iret (v := (0 : Int32)) hx hb hr (fun t ht hW => ⟨⟨(0 : Int32), s0, rfl, hf, P_heap ht hP⟩, hS.F ht⟩) hS.2.2 dX7_readText_71
        · have hf := hf.2 c_6
          refine lv_aload_n hx hb dX7_readText_59 rfl (lv_at hl 0 rfl) ?_
          refine va_get (D := D) (ci := 5) (v := .ref (q0 8)) (C := RX7) (T := TX7) (N := 28) hx hb ht inX7 hown hK hP 0 eM_0 rfl 13 (by decide) (ht _ tw_668) (fun _ h9 => h9) rfl dX7_readText_60 ?_
          refine lv_iconst (v := (0 : Int32)) hx hb dX7_readText_63 (by decide) ?_
          obtain ⟨hi_7, hf⟩ := hf
          refine va_iald hx hb hK hP 8 0 eM_8 rfl hi_7 dX7_readText_64 ?_
          refine lv_bipush (v := (68 : Int32)) hx hb dX7_readText_65 (by decide) ?_
          refine lv_icmp_eq (tgt := 72) hx hb dX7_readText_67 (by decide) (fun c_8 => ?_) (fun c_8 => ?_)
          · have hf := hf.1 c_8
            refine lv_aload_n hx hb dX7_readText_72 rfl (lv_at hl 0 rfl) ?_
            refine lv_iconst (v := (1 : Int32)) hx hb dX7_readText_73 (by decide) ?_
            refine va_put (D := D) (ci := 5) (v := .int (1 : Int32)) (ty := .int) (C := RX7) (T := TX7) (N := 28) hx hb ht inX7 tyX7 tyX7_ok nmX7 hown hK hP hD hS 0 eM_0 rfl 15 (by decide) (ht _ tw_670) (fun _ h9 => h9) rfl pf_I rfl rfl (Nat.le_of_ble_eq_true rfl) dX7_readText_74 (fun H locs hP hD hS => ?_)
            obtain ⟨s0_9, es0_9⟩ : ∃ y : CS, y = sI s0 15 (1 : Int32) := ⟨_, rfl⟩
            have hf := hf s0_9 es0_9
            have hD := hDk s0_9
            have hP : va_P D classes (wM cI cZ q0 s0_9) H := by rw [es0_9]; exact PM_I15 hP
            exact k_77 s0_9 H locs ls hf hP hD hS (lv_sub hl [0] rfl)
          · have hf := hf.2 c_8
            refine lv_iconst (v := (0 : Int32)) hx hb dX7_readText_70 (by decide) ?_
            exact W.iret (v := (0 : Int32)) hx hb hr (fun t ht hW => ⟨⟨(0 : Int32), s0, rfl, hf, P_heap ht hP⟩, hS.F ht⟩) hS.2.2 dX7_readText_71
      · have hf := hf.2 c_5
        refine lv_aload_n hx hb dX7_readText_38 rfl (lv_at hl 0 rfl) ?_
        refine va_get (D := D) (ci := 5) (v := .ref (q0 6)) (C := RX7) (T := TX7) (N := 28) hx hb ht inX7 hown hK hP 0 eM_0 rfl 7 (by decide) (ht _ tw_662) (fun _ h9 => h9) rfl dX7_readText_39 ?_
        refine lv_iload_n hx hb dX7_readText_42 rfl (lv_at hl 1 rfl) ?_
        refine lv_bipush (v := (-9 : Int32)) hx hb dX7_readText_43 (by decide) ?_
        obtain ⟨hi_10, hf⟩ := hf
        refine va_iast hx hb hK hP hD hS 6 0 eM_6 rfl hi_10 dX7_readText_45 (fun H locs hP hD hS => ?_)
        obtain ⟨s0_11, es0_11⟩ : ∃ y : CS, y = sA s0 7 x1.toNatClampNeg (-9 : Int32) := ⟨_, rfl⟩
        have hf := hf s0_11 es0_11
        have hD := hDk s0_11
        have hP : va_P D classes (wM cI cZ q0 s0_11) H := by rw [es0_11]; exact PM_F7 hP
        obtain ⟨x1_12, ex1_12⟩ : ∃ y : Int32, y = x1 + (1 : Int32) := ⟨_, rfl⟩
        have hf := hf x1_12 ex1_12
        refine lv_iinc (v := x1_12) (lv' := [(1, .int x1_12), (0, .ref (q0 0))]) hx hb dX7_readText_46 hl (k := 1) rfl (by rw [ex1_12]; rfl) (by decide) rfl (fun ls hl => ?_)
        refine lv_goto (tgt := 33) hx hb dX7_readText_49 (by decide) ?_
        exact hG_33 x1_12 s0_11 H locs ls hf hP hD hS (lv_sub hl [1, 0] rfl)
    exact main_33 n0_33 x1 s0 H locs ls hI0_33 hP hD hS hl
  have start : ∀ (H : Heap) (locs : List Loc), va_P D classes (wM cI cZ q0 s0) H → va_D A (wM cI cZ q0 s0) → va_S A s.heap H locs → W p l e (headSpec (wsA yX7_readText cX7_readText 2 (some .int)) ({ frames := 3, cells := 0, slots := 0, locals := 73 })).room s m (#[.ref (q0 0)] : Array Value) below meth c H locs 0 0 (MQ below (va_Qi (fun (r : Int32) (u : CS) => Q r u) (fun u t => va_P D classes (wM cI cZ q0 u) t.heap) A) (#[.ref (q0 0)] : Array Value) s 0 0 A) (F0 m 0 ls []) := by
    intro H locs hP hD hS
    refine lv_aload_n hx hb dX7_readText_0 rfl (lv_at hl 0 rfl) ?_
    refine lv_iconst (v := (0 : Int32)) hx hb dX7_readText_1 (by decide) ?_
    refine va_put (D := D) (ci := 5) (v := .int (0 : Int32)) (ty := .int) (C := RX7) (T := TX7) (N := 28) hx hb ht inX7 tyX7 tyX7_ok nmX7 hown hK hP hD hS 0 eM_0 rfl 15 (by decide) (ht _ tw_670) (fun _ h9 => h9) rfl pf_I rfl rfl (Nat.le_of_ble_eq_true rfl) dX7_readText_2 (fun H locs hP hD hS => ?_)
    obtain ⟨s0_13, es0_13⟩ : ∃ y : CS, y = sI s0 15 (0 : Int32) := ⟨_, rfl⟩
    have hf := hf s0_13 es0_13
    have hD := hDk s0_13
    have hP : va_P D classes (wM cI cZ q0 s0_13) H := by rw [es0_13]; exact PM_I15 hP
    refine lv_aload_n hx hb dX7_readText_5 rfl (lv_at hl 0 rfl) ?_
    refine lv_bipush (v := (-9 : Int32)) hx hb dX7_readText_6 (by decide) ?_
    refine va_put (D := D) (ci := 5) (v := .int (-9 : Int32)) (ty := .int) (C := RX7) (T := TX7) (N := 28) hx hb ht inX7 tyX7 tyX7_ok nmX7 hown hK hP hD hS 0 eM_0 rfl 16 (by decide) (ht _ tw_671) (fun _ h9 => h9) rfl pf_I rfl rfl (Nat.le_of_ble_eq_true rfl) dX7_readText_8 (fun H locs hP hD hS => ?_)
    obtain ⟨s0_14, es0_14⟩ : ∃ y : CS, y = sI s0_13 16 (-9 : Int32) := ⟨_, rfl⟩
    have hf := hf s0_14 es0_14
    have hD := hDk s0_14
    have hP : va_P D classes (wM cI cZ q0 s0_14) H := by rw [es0_14]; exact PM_I16 hP
    refine lv_aload_n hx hb dX7_readText_11 rfl (lv_at hl 0 rfl) ?_
    refine lv_iconst (v := (0 : Int32)) hx hb dX7_readText_12 (by decide) ?_
    refine va_put (D := D) (ci := 5) (v := .int (0 : Int32)) (ty := .int) (C := RX7) (T := TX7) (N := 28) hx hb ht inX7 tyX7 tyX7_ok nmX7 hown hK hP hD hS 0 eM_0 rfl 9 (by decide) (ht _ tw_664) (fun _ h9 => h9) rfl pf_I rfl rfl (Nat.le_of_ble_eq_true rfl) dX7_readText_13 (fun H locs hP hD hS => ?_)
    obtain ⟨s0_15, es0_15⟩ : ∃ y : CS, y = sI s0_14 9 (0 : Int32) := ⟨_, rfl⟩
    have hf := hf s0_15 es0_15
    have hD := hDk s0_15
    have hP : va_P D classes (wM cI cZ q0 s0_15) H := by rw [es0_15]; exact PM_I9 hP
    refine lv_aload_n hx hb dX7_readText_16 rfl (lv_at hl 0 rfl) ?_
    refine lv_iconst (v := (0 : Int32)) hx hb dX7_readText_17 (by decide) ?_
    refine va_put (D := D) (ci := 5) (v := .int (0 : Int32)) (ty := .int) (C := RX7) (T := TX7) (N := 28) hx hb ht inX7 tyX7 tyX7_ok nmX7 hown hK hP hD hS 0 eM_0 rfl 10 (by decide) (ht _ tw_665) (fun _ h9 => h9) rfl pf_I rfl rfl (Nat.le_of_ble_eq_true rfl) dX7_readText_18 (fun H locs hP hD hS => ?_)
    obtain ⟨s0_16, es0_16⟩ : ∃ y : CS, y = sI s0_15 10 (0 : Int32) := ⟨_, rfl⟩
    have hf := hf s0_16 es0_16
    have hD := hDk s0_16
    have hP : va_P D classes (wM cI cZ q0 s0_16) H := by rw [es0_16]; exact PM_I10 hP
    refine lv_aload_n hx hb dX7_readText_21 rfl (lv_at hl 0 rfl) ?_
    refine lv_iconst (v := (0 : Int32)) hx hb dX7_readText_22 (by decide) ?_
    refine va_put (D := D) (ci := 5) (v := .int (0 : Int32)) (ty := .int) (C := RX7) (T := TX7) (N := 28) hx hb ht inX7 tyX7 tyX7_ok nmX7 hown hK hP hD hS 0 eM_0 rfl 11 (by decide) (ht _ tw_666) (fun _ h9 => h9) rfl pf_I rfl rfl (Nat.le_of_ble_eq_true rfl) dX7_readText_23 (fun H locs hP hD hS => ?_)
    obtain ⟨s0_17, es0_17⟩ : ∃ y : CS, y = sI s0_16 11 (0 : Int32) := ⟨_, rfl⟩
    have hf := hf s0_17 es0_17
    have hD := hDk s0_17
    have hP : va_P D classes (wM cI cZ q0 s0_17) H := by rw [es0_17]; exact PM_I11 hP
    refine lv_aload_n hx hb dX7_readText_26 rfl (lv_at hl 0 rfl) ?_
    refine lv_iconst (v := (0 : Int32)) hx hb dX7_readText_27 (by decide) ?_
    refine va_put (D := D) (ci := 5) (v := .int (0 : Int32)) (ty := .int) (C := RX7) (T := TX7) (N := 28) hx hb ht inX7 tyX7 tyX7_ok nmX7 hown hK hP hD hS 0 eM_0 rfl 12 (by decide) (ht _ tw_667) (fun _ h9 => h9) rfl pf_I rfl rfl (Nat.le_of_ble_eq_true rfl) dX7_readText_28 (fun H locs hP hD hS => ?_)
    obtain ⟨s0_18, es0_18⟩ : ∃ y : CS, y = sI s0_17 12 (0 : Int32) := ⟨_, rfl⟩
    have hf := hf s0_18 es0_18
    have hD := hDk s0_18
    have hP : va_P D classes (wM cI cZ q0 s0_18) H := by rw [es0_18]; exact PM_I12 hP
    refine lv_iconst (v := (0 : Int32)) hx hb dX7_readText_31 (by decide) ?_
    refine lv_istore_n (lv' := [(1, .int (0 : Int32)), (0, .ref (q0 0))]) hx hb dX7_readText_32 rfl hl (by decide) rfl (fun ls hl => ?_)
    exact k_33 (0 : Int32) s0_18 H locs ls hf hP hD hS (lv_sub hl [1, 0] rfl)
  exact start s.heap [] hP hD hS
def wp_X7_fault (s0 : CS) (Q : Int32 → CS → Prop) : Prop := wp_X7_readText s0 (fun r_2 s0_1 => Q r_2 s0_1)
set_option maxHeartbeats 4000000 in
set_option maxRecDepth 100000 in
theorem c_X7_fault (l : Launch) (D : va_G) (cI cZ cW : ClassId) (q0 : Nat → Nat) (sz : Nat) (s0 : CS) (Q : Int32 → CS → Prop) (hf : wp_X7_fault s0 Q) : Met l yX7_fault (wsA yX7_fault cX7_fault 1 (some .int)) ({ frames := 4, cells := 0, slots := 0, locals := 94 }) (PW D cI cZ cW [.ref (q0 0)] (wM cI cZ q0 s0) sz) (va_Qi (fun (r : Int32) (u : CS) => Q r u) (fun u t => va_P D classes (wM cI cZ q0 u) t.heap) (va_A (wM cI cZ q0 s0) sz)) 0 0 (va_A (wM cI cZ q0 s0) sz) := by
  refine Met.ofW (cc := cX7_fault) (maxL := 1) (ret := (some .int)) (by decide) rfl ?_
  intro p e s m args below meth c s₁ B hml hv
  obtain ⟨rfl, hsz, hP, hK, hD0⟩ := hv
  have hx := B.exec
  have hb := B.bytes
  have hr := B.returns
  have hts := atoms_spec (ws := (wsA yX7_fault cX7_fault 1 (some .int))) B.pre
  have ht : ∀ w ∈ lw_g, w.before _ s = true := fun w h => hts w (List.mem_cons_of_mem _ h)
  have hown : s.vm.findClass RX7 = some m.cls := findClass_of_methodNamed B.named
  have hlocks := B.notSynchronized
  subst hsz
  have hD := hD0.self (sz := s.heap.size)
  generalize hAe : va_A (wM cI cZ q0 s0) s.heap.size = A at hD ⊢
  have hA : ∀ q : Nat, s.heap.size ≤ q → A q := fun q h => by rw [← hAe]; exact Or.inr h
  have hS : va_S A s.heap s.heap [] := va_S.rf
  have hDk : ∀ w : CS, va_D A (wM cI cZ q0 w) := fun w => D_M hD
  have hl := lv_entry ([.ref (q0 0)]) (n := 1) (Nat.le_of_ble_eq_true rfl)
  rw [lg_entry_eq]
  generalize (lg_sl ([.ref (q0 0)]) ++ List.replicate (1 - (lg_sl ([.ref (q0 0)])).length) Slot.unset).toArray = ls at hl ⊢
  have hl : lv_has ls 1 [(0, .ref (q0 0))] := hl
  unfold wp_X7_fault at hf
  have start : ∀ (H : Heap) (locs : List Loc), va_P D classes (wM cI cZ q0 s0) H → va_D A (wM cI cZ q0 s0) → va_S A s.heap H locs → W p l e (headSpec (wsA yX7_fault cX7_fault 1 (some .int)) ({ frames := 4, cells := 0, slots := 0, locals := 94 })).room s m (#[.ref (q0 0)] : Array Value) below meth c H locs 0 0 (MQ below (va_Qi (fun (r : Int32) (u : CS) => Q r u) (fun u t => va_P D classes (wM cI cZ q0 u) t.heap) A) (#[.ref (q0 0)] : Array Value) s 0 0 A) (F0 m 0 ls []) := by
    intro H locs hP hD hS
    refine lv_aload_n hx hb dX7_fault_0 rfl (lv_at hl 0 rfl) ?_
    have hPc : va_P D classes (wM cI cZ q0 s0) H := hP
    have hDc : va_D A (wM cI cZ q0 s0) := hD
    have hFc := va_free (wc := (wM cI cZ q0 s0)) hD hS hA [0, 1, 2, 3, 4, 5, 6, 7, 8, 9, 10, 11, 12, 13, 14, 15] rfl
    refine va_calli (va_runV (As := []) (rest := []) ⟨hx, hb, hml, hown, hts⟩ (c_X7_readText l D cI cZ cW q0 H.size s0 _ hf) ⟨callB_of 0 hts (gA tw_759) rfl rfl rfl (ht _ tw_7) (ht _ tw_756) hd_X7_readText ⟨Nat.le_of_ble_eq_true rfl, Nat.le_of_ble_eq_true rfl⟩, ht _ tw_758, ht _ twp_18⟩ ⟨PW_blind, va_recv hK hP (ci := 5) (q0 := 0) rfl eM_0, fun U hU hW => PW_mk hPc hDc hK hU hW⟩ rfl rfl hl.1 rfl (lv_room (Nat.le_of_ble_eq_true rfl)) dX7_fault_1 ⟨Nat.zero_le _, Nat.zero_le _⟩) hS (fun q _ h => hFc q h) hFc (fun r_2 u t H1 locs ht1 hvm hf hB hz1 hk1 hS => ?_)
    obtain ⟨s0_1, rfl⟩ : ∃ z, z = u := ⟨_, rfl⟩
    rw [ht1] at hB
    have hP := hB
    have hD := hDk s0_1
    generalize H1 = H at hP hS ⊢
    have hP : va_P D classes (wM cI cZ q0 s0_1) H := hP
    have hD : va_D A (wM cI cZ q0 s0_1) := hD
    exact W.iret (v := r_2) hx hb hr (fun t ht hW => ⟨⟨r_2, s0_1, rfl, hf, P_heap ht hP⟩, hS.F ht⟩) hS.2.2 dX7_fault_4
  exact start s.heap [] hP hD hS
