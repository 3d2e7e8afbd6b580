theorem dX6_rests_0 : decode cX6_rests 0 = .ok (.aload_n 0, 1) := by decide +kernel
theorem dX6_rests_1 : decode cX6_rests 1 = .ok (.getfield 20, 3) := by decide +kernel
theorem dX6_rests_4 : decode cX6_rests 4 = .ok (.iload_n 1, 1) := by decide +kernel
theorem dX6_rests_5 : decode cX6_rests 5 = .ok (.invokevirtual 82, 3) := by decide +kernel
theorem dX6_rests_8 : decode cX6_rests 8 = .ok (.ifCond .eq 14, 3) := by decide +kernel
theorem dX6_rests_11 : decode cX6_rests 11 = .ok (.aload_n 0, 1) := by decide +kernel
theorem dX6_rests_12 : decode cX6_rests 12 = .ok (.getfield 20, 3) := by decide +kernel
theorem dX6_rests_15 : decode cX6_rests 15 = .ok (.iload_n 2, 1) := by decide +kernel
theorem dX6_rests_16 : decode cX6_rests 16 = .ok (.invokevirtual 82, 3) := by decide +kernel
theorem dX6_rests_19 : decode cX6_rests 19 = .ok (.ifCond .ne 5, 3) := by decide +kernel
theorem dX6_rests_22 : decode cX6_rests 22 = .ok (.iconst (-1), 1) := by decide +kernel
theorem dX6_rests_23 : decode cX6_rests 23 = .ok (.ireturn, 1) := by decide +kernel
theorem dX6_rests_24 : decode cX6_rests 24 = .ok (.iload_n 1, 1) := by decide +kernel
theorem dX6_rests_25 : decode cX6_rests 25 = .ok (.iload_n 2, 1) := by decide +kernel
theorem dX6_rests_26 : decode cX6_rests 26 = .ok (.if_icmp .eq 12, 3) := by decide +kernel
theorem dX6_rests_29 : decode cX6_rests 29 = .ok (.iload_n 3, 1) := by decide +kernel
theorem dX6_rests_30 : decode cX6_rests 30 = .ok (.ifCond .lt 8, 3) := by decide +kernel
theorem dX6_rests_33 : decode cX6_rests 33 = .ok (.iload_n 3, 1) := by decide +kernel
theorem dX6_rests_34 : decode cX6_rests 34 = .ok (.iconst 1, 1) := by decide +kernel
theorem dX6_rests_35 : decode cX6_rests 35 = .ok (.if_icmp .le 6, 3) := by decide +kernel
theorem dX6_rests_38 : decode cX6_rests 38 = .ok (.bipush (-2), 2) := by decide +kernel
theorem dX6_rests_40 : decode cX6_rests 40 = .ok (.ireturn, 1) := by decide +kernel
theorem dX6_rests_41 : decode cX6_rests 41 = .ok (.aload_n 0, 1) := by decide +kernel
theorem dX6_rests_42 : decode cX6_rests 42 = .ok (.getfield 33, 3) := by decide +kernel
theorem dX6_rests_45 : decode cX6_rests 45 = .ok (.iload_n 1, 1) := by decide +kernel
theorem dX6_rests_46 : decode cX6_rests 46 = .ok (.invokevirtual 250, 3) := by decide +kernel
theorem dX6_rests_49 : decode cX6_rests 49 = .ok (.istore 4, 2) := by decide +kernel
theorem dX6_rests_51 : decode cX6_rests 51 = .ok (.aload_n 0, 1) := by decide +kernel
theorem dX6_rests_52 : decode cX6_rests 52 = .ok (.getfield 33, 3) := by decide +kernel
theorem dX6_rests_55 : decode cX6_rests 55 = .ok (.iload_n 2, 1) := by decide +kernel
theorem dX6_rests_56 : decode cX6_rests 56 = .ok (.invokevirtual 250, 3) := by decide +kernel
theorem dX6_rests_59 : decode cX6_rests 59 = .ok (.istore 5, 2) := by decide +kernel
theorem dX6_rests_61 : decode cX6_rests 61 = .ok (.iconst 0, 1) := by decide +kernel
theorem dX6_rests_62 : decode cX6_rests 62 = .ok (.istore 6, 2) := by decide +kernel
theorem dX6_rests_64 : decode cX6_rests 64 = .ok (.bipush (-9), 2) := by decide +kernel
theorem dX6_rests_66 : decode cX6_rests 66 = .ok (.istore 7, 2) := by decide +kernel
theorem dX6_rests_68 : decode cX6_rests 68 = .ok (.iconst 1, 1) := by decide +kernel
theorem dX6_rests_69 : decode cX6_rests 69 = .ok (.istore 8, 2) := by decide +kernel
theorem dX6_rests_71 : decode cX6_rests 71 = .ok (.iload 8, 2) := by decide +kernel
theorem dX6_rests_73 : decode cX6_rests 73 = .ok (.iconst 2, 1) := by decide +kernel
theorem dX6_rests_74 : decode cX6_rests 74 = .ok (.if_icmp .gt 66, 3) := by decide +kernel
theorem dX6_rests_77 : decode cX6_rests 77 = .ok (.iconst 1, 1) := by decide +kernel
theorem dX6_rests_78 : decode cX6_rests 78 = .ok (.istore 9, 2) := by decide +kernel
theorem dX6_rests_80 : decode cX6_rests 80 = .ok (.iload 9, 2) := by decide +kernel
theorem dX6_rests_82 : decode cX6_rests 82 = .ok (.iconst 2, 1) := by decide +kernel
theorem dX6_rests_83 : decode cX6_rests 83 = .ok (.if_icmp .gt 51, 3) := by decide +kernel
theorem dX6_rests_86 : decode cX6_rests 86 = .ok (.iload 8, 2) := by decide +kernel
theorem dX6_rests_88 : decode cX6_rests 88 = .ok (.iload 9, 2) := by decide +kernel
theorem dX6_rests_90 : decode cX6_rests 90 = .ok (.iload 4, 2) := by decide +kernel
theorem dX6_rests_92 : decode cX6_rests 92 = .ok (.invokestatic 253, 3) := by decide +kernel
theorem dX6_rests_95 : decode cX6_rests 95 = .ok (.ifCond .eq 33, 3) := by decide +kernel
theorem dX6_rests_98 : decode cX6_rests 98 = .ok (.iload 9, 2) := by decide +kernel
theorem dX6_rests_100 : decode cX6_rests 100 = .ok (.iload 8, 2) := by decide +kernel
theorem dX6_rests_102 : decode cX6_rests 102 = .ok (.iload 5, 2) := by decide +kernel
theorem dX6_rests_104 : decode cX6_rests 104 = .ok (.invokestatic 253, 3) := by decide +kernel
theorem dX6_rests_107 : decode cX6_rests 107 = .ok (.ifCond .eq 21, 3) := by decide +kernel
theorem dX6_rests_110 : decode cX6_rests 110 = .ok (.iload 6, 2) := by decide +kernel
theorem dX6_rests_112 : decode cX6_rests 112 = .ok (.ifCond .ne 13, 3) := by decide +kernel
theorem dX6_rests_115 : decode cX6_rests 115 = .ok (.bipush 10, 2) := by decide +kernel
theorem dX6_rests_117 : decode cX6_rests 117 = .ok (.iload 8, 2) := by decide +kernel
theorem dX6_rests_119 : decode cX6_rests 119 = .ok (.imul, 1) := by decide +kernel
theorem dX6_rests_120 : decode cX6_rests 120 = .ok (.iload 9, 2) := by decide +kernel
theorem dX6_rests_122 : decode cX6_rests 122 = .ok (.iadd, 1) := by decide +kernel
theorem dX6_rests_123 : decode cX6_rests 123 = .ok (.istore 7, 2) := by decide +kernel
theorem dX6_rests_125 : decode cX6_rests 125 = .ok (.iinc 6 1, 3) := by decide +kernel
theorem dX6_rests_128 : decode cX6_rests 128 = .ok (.iinc 9 1, 3) := by decide +kernel
theorem dX6_rests_131 : decode cX6_rests 131 = .ok (.goto (-51), 3) := by decide +kernel
theorem dX6_rests_134 : decode cX6_rests 134 = .ok (.iinc 8 1, 3) := by decide +kernel
theorem dX6_rests_137 : decode cX6_rests 137 = .ok (.goto (-66), 3) := by decide +kernel
theorem dX6_rests_140 : decode cX6_rests 140 = .ok (.iload_n 3, 1) := by decide +kernel
theorem dX6_rests_141 : decode cX6_rests 141 = .ok (.ifCond .ne 8, 3) := by decide +kernel
theorem dX6_rests_144 : decode cX6_rests 144 = .ok (.iload 6, 2) := by decide +kernel
theorem dX6_rests_146 : decode cX6_rests 146 = .ok (.goto 5, 3) := by decide +kernel
theorem dX6_rests_149 : decode cX6_rests 149 = .ok (.iload 7, 2) := by decide +kernel
theorem dX6_rests_151 : decode cX6_rests 151 = .ok (.ireturn, 1) := by decide +kernel
theorem dX6_weightOfShut_0 : decode cX6_weightOfShut 0 = .ok (.iconst 1, 1) := by decide +kernel
theorem dX6_weightOfShut_1 : decode cX6_weightOfShut 1 = .ok (.istore_n 3, 1) := by decide +kernel
theorem dX6_weightOfShut_2 : decode cX6_weightOfShut 2 = .ok (.iconst 0, 1) := by decide +kernel
theorem dX6_weightOfShut_3 : decode cX6_weightOfShut 3 = .ok (.istore 4, 2) := by decide +kernel
theorem dX6_weightOfShut_5 : decode cX6_weightOfShut 5 = .ok (.iload 4, 2) := by decide +kernel
theorem dX6_weightOfShut_7 : decode cX6_weightOfShut 7 = .ok (.iconst 5, 1) := by decide +kernel
theorem dX6_weightOfShut_8 : decode cX6_weightOfShut 8 = .ok (.if_icmp .ge 40, 3) := by decide +kernel
theorem dX6_weightOfShut_11 : decode cX6_weightOfShut 11 = .ok (.iconst 1, 1) := by decide +kernel
theorem dX6_weightOfShut_12 : decode cX6_weightOfShut 12 = .ok (.iload 4, 2) := by decide +kernel
theorem dX6_weightOfShut_14 : decode cX6_weightOfShut 14 = .ok (.ishl, 1) := by decide +kernel
theorem dX6_weightOfShut_15 : decode cX6_weightOfShut 15 = .ok (.istore 5, 2) := by decide +kernel
theorem dX6_weightOfShut_17 : decode cX6_weightOfShut 17 = .ok (.iload_n 1, 1) := by decide +kernel
theorem dX6_weightOfShut_18 : decode cX6_weightOfShut 18 = .ok (.iload 5, 2) := by decide +kernel
theorem dX6_weightOfShut_20 : decode cX6_weightOfShut 20 = .ok (.iand, 1) := by decide +kernel
theorem dX6_weightOfShut_21 : decode cX6_weightOfShut 21 = .ok (.ifCond .eq 21, 3) := by decide +kernel
theorem dX6_weightOfShut_24 : decode cX6_weightOfShut 24 = .ok (.iload_n 3, 1) := by decide +kernel
theorem dX6_weightOfShut_25 : decode cX6_weightOfShut 25 = .ok (.iload_n 0, 1) := by decide +kernel
theorem dX6_weightOfShut_26 : decode cX6_weightOfShut 26 = .ok (.iload 5, 2) := by decide +kernel
theorem dX6_weightOfShut_28 : decode cX6_weightOfShut 28 = .ok (.iand, 1) := by decide +kernel
theorem dX6_weightOfShut_29 : decode cX6_weightOfShut 29 = .ok (.ifCond .eq 7, 3) := by decide +kernel
theorem dX6_weightOfShut_32 : decode cX6_weightOfShut 32 = .ok (.iload_n 2, 1) := by decide +kernel
theorem dX6_weightOfShut_33 : decode cX6_weightOfShut 33 = .ok (.goto 7, 3) := by decide +kernel
theorem dX6_weightOfShut_36 : decode cX6_weightOfShut 36 = .ok (.bipush 10, 2) := by decide +kernel
theorem dX6_weightOfShut_38 : decode cX6_weightOfShut 38 = .ok (.iload_n 2, 1) := by decide +kernel
theorem dX6_weightOfShut_39 : decode cX6_weightOfShut 39 = .ok (.isub, 1) := by decide +kernel
theorem dX6_weightOfShut_40 : decode cX6_weightOfShut 40 = .ok (.imul, 1) := by decide +kernel
theorem dX6_weightOfShut_41 : decode cX6_weightOfShut 41 = .ok (.istore_n 3, 1) := by decide +kernel
theorem dX6_weightOfShut_42 : decode cX6_weightOfShut 42 = .ok (.iinc 4 1, 3) := by decide +kernel
theorem dX6_weightOfShut_45 : decode cX6_weightOfShut 45 = .ok (.goto (-40), 3) := by decide +kernel
theorem dX6_weightOfShut_48 : decode cX6_weightOfShut 48 = .ok (.iload_n 3, 1) := by decide +kernel
theorem dX6_weightOfShut_49 : decode cX6_weightOfShut 49 = .ok (.ireturn, 1) := by decide +kernel
theorem dX6_passes_0 : decode cX6_passes 0 = .ok (.iload_n 1, 1) := by decide +kernel
theorem dX6_passes_1 : decode cX6_passes 1 = .ok (.invokestatic 131, 3) := by decide +kernel
theorem dX6_passes_4 : decode cX6_passes 4 = .ok (.ifCond .eq 10, 3) := by decide +kernel
theorem dX6_passes_7 : decode cX6_passes 7 = .ok (.iload_n 2, 1) := by decide +kernel
theorem dX6_passes_8 : decode cX6_passes 8 = .ok (.invokestatic 131, 3) := by decide +kernel
theorem dX6_passes_11 : decode cX6_passes 11 = .ok (.ifCond .ne 5, 3) := by decide +kernel
theorem dX6_passes_14 : decode cX6_passes 14 = .ok (.iconst (-1), 1) := by decide +kernel
theorem dX6_passes_15 : decode cX6_passes 15 = .ok (.ireturn, 1) := by decide +kernel
theorem dX6_passes_16 : decode cX6_passes 16 = .ok (.iload_n 3, 1) := by decide +kernel
theorem dX6_passes_17 : decode cX6_passes 17 = .ok (.ifCond .lt 9, 3) := by decide +kernel
theorem dX6_passes_20 : decode cX6_passes 20 = .ok (.iload_n 3, 1) := by decide +kernel
theorem dX6_passes_21 : decode cX6_passes 21 = .ok (.bipush 10, 2) := by decide +kernel
theorem dX6_passes_23 : decode cX6_passes 23 = .ok (.if_icmp .le 6, 3) := by decide +kernel
theorem dX6_passes_26 : decode cX6_passes 26 = .ok (.bipush (-2), 2) := by decide +kernel
theorem dX6_passes_28 : decode cX6_passes 28 = .ok (.ireturn, 1) := by decide +kernel
theorem dX6_passes_29 : decode cX6_passes 29 = .ok (.aload_n 0, 1) := by decide +kernel
theorem dX6_passes_30 : decode cX6_passes 30 = .ok (.getfield 33, 3) := by decide +kernel
theorem dX6_passes_33 : decode cX6_passes 33 = .ok (.invokevirtual 200, 3) := by decide +kernel
theorem dX6_passes_36 : decode cX6_passes 36 = .ok (.istore 5, 2) := by decide +kernel
theorem dX6_passes_38 : decode cX6_passes 38 = .ok (.iconst 0, 1) := by decide +kernel
theorem dX6_passes_39 : decode cX6_passes 39 = .ok (.istore 6, 2) := by decide +kernel
theorem dX6_passes_41 : decode cX6_passes 41 = .ok (.iconst 1, 1) := by decide +kernel
theorem dX6_passes_42 : decode cX6_passes 42 = .ok (.istore 7, 2) := by decide +kernel
theorem dX6_passes_44 : decode cX6_passes 44 = .ok (.iconst 0, 1) := by decide +kernel
theorem dX6_passes_45 : decode cX6_passes 45 = .ok (.istore 8, 2) := by decide +kernel
theorem dX6_passes_47 : decode cX6_passes 47 = .ok (.iload 8, 2) := by decide +kernel
theorem dX6_passes_49 : decode cX6_passes 49 = .ok (.iconst 5, 1) := by decide +kernel
theorem dX6_passes_50 : decode cX6_passes 50 = .ok (.if_icmp .ge 26, 3) := by decide +kernel
theorem dX6_passes_53 : decode cX6_passes 53 = .ok (.iload 5, 2) := by decide +kernel
theorem dX6_passes_55 : decode cX6_passes 55 = .ok (.iconst 1, 1) := by decide +kernel
theorem dX6_passes_56 : decode cX6_passes 56 = .ok (.iload 8, 2) := by decide +kernel
theorem dX6_passes_58 : decode cX6_passes 58 = .ok (.ishl, 1) := by decide +kernel
theorem dX6_passes_59 : decode cX6_passes 59 = .ok (.iand, 1) := by decide +kernel
theorem dX6_passes_60 : decode cX6_passes 60 = .ok (.ifCond .eq 10, 3) := by decide +kernel
theorem dX6_passes_63 : decode cX6_passes 63 = .ok (.iload 7, 2) := by decide +kernel
theorem dX6_passes_65 : decode cX6_passes 65 = .ok (.bipush 10, 2) := by decide +kernel
theorem dX6_passes_67 : decode cX6_passes 67 = .ok (.imul, 1) := by decide +kernel
theorem dX6_passes_68 : decode cX6_passes 68 = .ok (.istore 7, 2) := by decide +kernel
theorem dX6_passes_70 : decode cX6_passes 70 = .ok (.iinc 8 1, 3) := by decide +kernel
theorem dX6_passes_73 : decode cX6_passes 73 = .ok (.goto (-26), 3) := by decide +kernel
theorem dX6_passes_76 : decode cX6_passes 76 = .ok (.iconst 0, 1) := by decide +kernel
theorem dX6_passes_77 : decode cX6_passes 77 = .ok (.istore 8, 2) := by decide +kernel
theorem dX6_passes_79 : decode cX6_passes 79 = .ok (.iload 8, 2) := by decide +kernel
theorem dX6_passes_81 : decode cX6_passes 81 = .ok (.bipush 32, 2) := by decide +kernel
theorem dX6_passes_83 : decode cX6_passes 83 = .ok (.if_icmp .ge 51, 3) := by decide +kernel
theorem dX6_passes_86 : decode cX6_passes 86 = .ok (.iload 8, 2) := by decide +kernel
theorem dX6_passes_88 : decode cX6_passes 88 = .ok (.iload 5, 2) := by decide +kernel
theorem dX6_passes_90 : decode cX6_passes 90 = .ok (.iconst (-1), 1) := by decide +kernel
theorem dX6_passes_91 : decode cX6_passes 91 = .ok (.ixor, 1) := by decide +kernel
theorem dX6_passes_92 : decode cX6_passes 92 = .ok (.iand, 1) := by decide +kernel
theorem dX6_passes_93 : decode cX6_passes 93 = .ok (.ifCond .ne 35, 3) := by decide +kernel
theorem dX6_passes_96 : decode cX6_passes 96 = .ok (.iload_n 1, 1) := by decide +kernel
theorem dX6_passes_97 : decode cX6_passes 97 = .ok (.iload_n 2, 1) := by decide +kernel
theorem dX6_passes_98 : decode cX6_passes 98 = .ok (.aload_n 0, 1) := by decide +kernel
theorem dX6_passes_99 : decode cX6_passes 99 = .ok (.getfield 33, 3) := by decide +kernel
theorem dX6_passes_102 : decode cX6_passes 102 = .ok (.iload 8, 2) := by decide +kernel
theorem dX6_passes_104 : decode cX6_passes 104 = .ok (.invokevirtual 260, 3) := by decide +kernel
theorem dX6_passes_107 : decode cX6_passes 107 = .ok (.invokestatic 183, 3) := by decide +kernel
theorem dX6_passes_110 : decode cX6_passes 110 = .ok (.bipush (-9), 2) := by decide +kernel
theorem dX6_passes_112 : decode cX6_passes 112 = .ok (.if_icmp .eq 16, 3) := by decide +kernel
theorem dX6_passes_115 : decode cX6_passes 115 = .ok (.iload 6, 2) := by decide +kernel
theorem dX6_passes_117 : decode cX6_passes 117 = .ok (.iload 8, 2) := by decide +kernel
theorem dX6_passes_119 : decode cX6_passes 119 = .ok (.iload 5, 2) := by decide +kernel
theorem dX6_passes_121 : decode cX6_passes 121 = .ok (.iload_n 3, 1) := by decide +kernel
theorem dX6_passes_122 : decode cX6_passes 122 = .ok (.invokestatic 263, 3) := by decide +kernel
theorem dX6_passes_125 : decode cX6_passes 125 = .ok (.iadd, 1) := by decide +kernel
theorem dX6_passes_126 : decode cX6_passes 126 = .ok (.istore 6, 2) := by decide +kernel
theorem dX6_passes_128 : decode cX6_passes 128 = .ok (.iinc 8 1, 3) := by decide +kernel
theorem dX6_passes_131 : decode cX6_passes 131 = .ok (.goto (-52), 3) := by decide +kernel
theorem dX6_passes_134 : decode cX6_passes 134 = .ok (.iload 6, 2) := by decide +kernel
theorem dX6_passes_136 : decode cX6_passes 136 = .ok (.iload 7, 2) := by decide +kernel
theorem dX6_passes_138 : decode cX6_passes 138 = .ok (.iload 4, 2) := by decide +kernel
theorem dX6_passes_140 : decode cX6_passes 140 = .ok (.invokestatic 243, 3) := by decide +kernel
theorem dX6_passes_143 : decode cX6_passes 143 = .ok (.ireturn, 1) := by decide +kernel
theorem dX6_seed_0 : decode cX6_seed 0 = .ok (.aload_n 0, 1) := by decide +kernel
theorem dX6_seed_1 : decode cX6_seed 1 = .ok (.getfield 61, 3) := by decide +kernel
theorem dX6_seed_4 : decode cX6_seed 4 = .ok (.lstore_n 3, 1) := by decide +kernel
theorem dX6_seed_5 : decode cX6_seed 5 = .ok (.aload_n 0, 1) := by decide +kernel
theorem dX6_seed_6 : decode cX6_seed 6 = .ok (.lload_n 1, 1) := by decide +kernel
theorem dX6_seed_7 : decode cX6_seed 7 = .ok (.putfield 61, 3) := by decide +kernel
theorem dX6_seed_10 : decode cX6_seed 10 = .ok (.lload_n 3, 1) := by decide +kernel
theorem dX6_seed_11 : decode cX6_seed 11 = .ok (.lreturn, 1) := by decide +kernel
theorem dX6_years_0 : decode cX6_years 0 = .ok (.iload_n 1, 1) := by decide +kernel
theorem dX6_years_1 : decode cX6_years 1 = .ok (.iconst 1, 1) := by decide +kernel
theorem dX6_years_2 : decode cX6_years 2 = .ok (.if_icmp .lt 9, 3) := by decide +kernel
theorem dX6_years_5 : decode cX6_years 5 = .ok (.iload_n 1, 1) := by decide +kernel
theorem dX6_years_6 : decode cX6_years 6 = .ok (.bipush 30, 2) := by decide +kernel
theorem dX6_years_8 : decode cX6_years 8 = .ok (.if_icmp .le 6, 3) := by decide +kernel
theorem dX6_years_11 : decode cX6_years 11 = .ok (.bipush (-2), 2) := by decide +kernel
theorem dX6_years_13 : decode cX6_years 13 = .ok (.ireturn, 1) := by decide +kernel
theorem dX6_years_14 : decode cX6_years 14 = .ok (.aload_n 0, 1) := by decide +kernel
theorem dX6_years_15 : decode cX6_years 15 = .ok (.getfield 37, 3) := by decide +kernel
theorem dX6_years_18 : decode cX6_years 18 = .ok (.aload_n 0, 1) := by decide +kernel
theorem dX6_years_19 : decode cX6_years 19 = .ok (.getfield 33, 3) := by decide +kernel
theorem dX6_years_22 : decode cX6_years 22 = .ok (.invokevirtual 194, 3) := by decide +kernel
theorem dX6_years_25 : decode cX6_years 25 = .ok (.iconst 0, 1) := by decide +kernel
theorem dX6_years_26 : decode cX6_years 26 = .ok (.istore_n 2, 1) := by decide +kernel
theorem dX6_years_27 : decode cX6_years 27 = .ok (.iload_n 2, 1) := by decide +kernel
theorem dX6_years_28 : decode cX6_years 28 = .ok (.iload_n 1, 1) := by decide +kernel
theorem dX6_years_29 : decode cX6_years 29 = .ok (.if_icmp .ge 89, 3) := by decide +kernel
theorem dX6_years_32 : decode cX6_years 32 = .ok (.aload_n 0, 1) := by decide +kernel
theorem dX6_years_33 : decode cX6_years 33 = .ok (.aload_n 0, 1) := by decide +kernel
theorem dX6_years_34 : decode cX6_years 34 = .ok (.getfield 61, 3) := by decide +kernel
theorem dX6_years_37 : decode cX6_years 37 = .ok (.ldc2_w 266, 3) := by decide +kernel
theorem dX6_years_40 : decode cX6_years 40 = .ok (.lmul, 1) := by decide +kernel
theorem dX6_years_41 : decode cX6_years 41 = .ok (.ldc2_w 268, 3) := by decide +kernel
theorem dX6_years_44 : decode cX6_years 44 = .ok (.ladd, 1) := by decide +kernel
theorem dX6_years_45 : decode cX6_years 45 = .ok (.putfield 61, 3) := by decide +kernel
theorem dX6_years_48 : decode cX6_years 48 = .ok (.aload_n 0, 1) := by decide +kernel
theorem dX6_years_49 : decode cX6_years 49 = .ok (.getfield 61, 3) := by decide +kernel
theorem dX6_years_52 : decode cX6_years 52 = .ok (.bipush 33, 2) := by decide +kernel
theorem dX6_years_54 : decode cX6_years 54 = .ok (.lushr, 1) := by decide +kernel
theorem dX6_years_55 : decode cX6_years 55 = .ok (.ldc2_w 270, 3) := by decide +kernel
theorem dX6_years_58 : decode cX6_years 58 = .ok (.lrem, 1) := by decide +kernel
theorem dX6_years_59 : decode cX6_years 59 = .ok (.l2i, 1) := by decide +kernel
theorem dX6_years_60 : decode cX6_years 60 = .ok (.istore_n 3, 1) := by decide +kernel
theorem dX6_years_61 : decode cX6_years 61 = .ok (.iload_n 3, 1) := by decide +kernel
theorem dX6_years_62 : decode cX6_years 62 = .ok (.bipush 20, 2) := by decide +kernel
theorem dX6_years_64 : decode cX6_years 64 = .ok (.if_icmp .lt 18, 3) := by decide +kernel
theorem dX6_years_67 : decode cX6_years 67 = .ok (.aload_n 0, 1) := by decide +kernel
theorem dX6_years_68 : decode cX6_years 68 = .ok (.getfield 37, 3) := by decide +kernel
theorem dX6_years_71 : decode cX6_years 71 = .ok (.aload_n 0, 1) := by decide +kernel
theorem dX6_years_72 : decode cX6_years 72 = .ok (.getfield 20, 3) := by decide +kernel
theorem dX6_years_75 : decode cX6_years 75 = .ok (.invokevirtual 149, 3) := by decide +kernel
theorem dX6_years_78 : decode cX6_years 78 = .ok (.pop, 1) := by decide +kernel
theorem dX6_years_79 : decode cX6_years 79 = .ok (.goto 33, 3) := by decide +kernel
theorem dX6_years_82 : decode cX6_years 82 = .ok (.aload_n 0, 1) := by decide +kernel
theorem dX6_years_83 : decode cX6_years 83 = .ok (.getfield 37, 3) := by decide +kernel
theorem dX6_years_86 : decode cX6_years 86 = .ok (.aload_n 0, 1) := by decide +kernel
theorem dX6_years_87 : decode cX6_years 87 = .ok (.getfield 20, 3) := by decide +kernel
theorem dX6_years_90 : decode cX6_years 90 = .ok (.iconst 0, 1) := by decide +kernel
theorem dX6_years_91 : decode cX6_years 91 = .ok (.iload_n 3, 1) := by decide +kernel
theorem dX6_years_92 : decode cX6_years 92 = .ok (.invokevirtual 153, 3) := by decide +kernel
theorem dX6_years_95 : decode cX6_years 95 = .ok (.ifCond .ne 17, 3) := by decide +kernel
theorem dX6_years_98 : decode cX6_years 98 = .ok (.aload_n 0, 1) := by decide +kernel
theorem dX6_years_99 : decode cX6_years 99 = .ok (.getfield 37, 3) := by decide +kernel
theorem dX6_years_102 : decode cX6_years 102 = .ok (.aload_n 0, 1) := by decide +kernel
theorem dX6_years_103 : decode cX6_years 103 = .ok (.getfield 20, 3) := by decide +kernel
theorem dX6_years_106 : decode cX6_years 106 = .ok (.iconst 0, 1) := by decide +kernel
theorem dX6_years_107 : decode cX6_years 107 = .ok (.iload_n 3, 1) := by decide +kernel
theorem dX6_years_108 : decode cX6_years 108 = .ok (.invokevirtual 157, 3) := by decide +kernel
theorem dX6_years_111 : decode cX6_years 111 = .ok (.pop, 1) := by decide +kernel
theorem dX6_years_112 : decode cX6_years 112 = .ok (.iinc 2 1, 3) := by decide +kernel
theorem dX6_years_115 : decode cX6_years 115 = .ok (.goto (-88), 3) := by decide +kernel
theorem dX6_years_118 : decode cX6_years 118 = .ok (.aload_n 0, 1) := by decide +kernel
theorem dX6_years_119 : decode cX6_years 119 = .ok (.getfield 37, 3) := by decide +kernel
theorem dX6_years_122 : decode cX6_years 122 = .ok (.invokevirtual 230, 3) := by decide +kernel
theorem dX6_years_125 : decode cX6_years 125 = .ok (.invokestatic 108, 3) := by decide +kernel
theorem dX6_years_128 : decode cX6_years 128 = .ok (.ireturn, 1) := by decide +kernel
theorem dX6_slotAt_0 : decode cX6_slotAt 0 = .ok (.iload_n 1, 1) := by decide +kernel
theorem dX6_slotAt_1 : decode cX6_slotAt 1 = .ok (.ifCond .lt 21, 3) := by decide +kernel
theorem dX6_slotAt_4 : decode cX6_slotAt 4 = .ok (.iload_n 1, 1) := by decide +kernel
theorem dX6_slotAt_5 : decode cX6_slotAt 5 = .ok (.aload_n 0, 1) := by decide +kernel
theorem dX6_slotAt_6 : decode cX6_slotAt 6 = .ok (.getfield 47, 3) := by decide +kernel
theorem dX6_slotAt_9 : decode cX6_slotAt 9 = .ok (.arraylength, 1) := by decide +kernel
theorem dX6_slotAt_10 : decode cX6_slotAt 10 = .ok (.if_icmp .ge 12, 3) := by decide +kernel
theorem dX6_slotAt_13 : decode cX6_slotAt 13 = .ok (.aload_n 0, 1) := by decide +kernel
theorem dX6_slotAt_14 : decode cX6_slotAt 14 = .ok (.getfield 47, 3) := by decide +kernel
theorem dX6_slotAt_17 : decode cX6_slotAt 17 = .ok (.iload_n 1, 1) := by decide +kernel
theorem dX6_slotAt_18 : decode cX6_slotAt 18 = .ok (.aaload, 1) := by decide +kernel
theorem dX6_slotAt_19 : decode cX6_slotAt 19 = .ok (.goto 4, 3) := by decide +kernel
theorem dX6_slotAt_22 : decode cX6_slotAt 22 = .ok (.aconst_null, 1) := by decide +kernel
theorem dX6_slotAt_23 : decode cX6_slotAt 23 = .ok (.areturn, 1) := by decide +kernel
theorem dX6_keep_0 : decode cX6_keep 0 = .ok (.aload_n 0, 1) := by decide +kernel
theorem dX6_keep_1 : decode cX6_keep 1 = .ok (.iload_n 1, 1) := by decide +kernel
theorem dX6_keep_2 : decode cX6_keep 2 = .ok (.invokevirtual 272, 3) := by decide +kernel
theorem dX6_keep_5 : decode cX6_keep 5 = .ok (.astore_n 2, 1) := by decide +kernel
theorem dX6_keep_6 : decode cX6_keep 6 = .ok (.aload_n 2, 1) := by decide +kernel
theorem dX6_keep_7 : decode cX6_keep 7 = .ok (.ifnonnull 5, 3) := by decide +kernel
theorem dX6_keep_10 : decode cX6_keep 10 = .ok (.iconst (-1), 1) := by decide +kernel
theorem dX6_keep_11 : decode cX6_keep 11 = .ok (.ireturn, 1) := by decide +kernel
theorem dX6_keep_12 : decode cX6_keep 12 = .ok (.aload_n 2, 1) := by decide +kernel
theorem dX6_keep_13 : decode cX6_keep 13 = .ok (.aload_n 0, 1) := by decide +kernel
theorem dX6_keep_14 : decode cX6_keep 14 = .ok (.getfield 33, 3) := by decide +kernel
theorem dX6_keep_17 : decode cX6_keep 17 = .ok (.invokevirtual 194, 3) := by decide +kernel
theorem dX6_keep_20 : decode cX6_keep 20 = .ok (.aload_n 0, 1) := by decide +kernel
theorem dX6_keep_21 : decode cX6_keep 21 = .ok (.dup, 1) := by decide +kernel
theorem dX6_keep_22 : decode cX6_keep 22 = .ok (.getfield 51, 3) := by decide +kernel
theorem dX6_keep_25 : decode cX6_keep 25 = .ok (.iconst 1, 1) := by decide +kernel
theorem dX6_keep_26 : decode cX6_keep 26 = .ok (.iload_n 1, 1) := by decide +kernel
theorem dX6_keep_27 : decode cX6_keep 27 = .ok (.ishl, 1) := by decide +kernel
theorem dX6_keep_28 : decode cX6_keep 28 = .ok (.ior, 1) := by decide +kernel
theorem dX6_keep_29 : decode cX6_keep 29 = .ok (.putfield 51, 3) := by decide +kernel
theorem dX6_keep_32 : decode cX6_keep 32 = .ok (.aload_n 0, 1) := by decide +kernel
theorem dX6_keep_33 : decode cX6_keep 33 = .ok (.getfield 33, 3) := by decide +kernel
theorem dX6_keep_36 : decode cX6_keep 36 = .ok (.getfield 276, 3) := by decide +kernel
theorem dX6_keep_39 : decode cX6_keep 39 = .ok (.ireturn, 1) := by decide +kernel
theorem dX6_again_0 : decode cX6_again 0 = .ok (.aload_n 0, 1) := by decide +kernel
theorem dX6_again_1 : decode cX6_again 1 = .ok (.iload_n 1, 1) := by decide +kernel
theorem dX6_again_2 : decode cX6_again 2 = .ok (.invokevirtual 272, 3) := by decide +kernel
theorem dX6_again_5 : decode cX6_again 5 = .ok (.astore_n 2, 1) := by decide +kernel
theorem dX6_again_6 : decode cX6_again 6 = .ok (.aload_n 2, 1) := by decide +kernel
theorem dX6_again_7 : decode cX6_again 7 = .ok (.ifnonnull 5, 3) := by decide +kernel
theorem dX6_again_10 : decode cX6_again 10 = .ok (.iconst (-1), 1) := by decide +kernel
theorem dX6_again_11 : decode cX6_again 11 = .ok (.ireturn, 1) := by decide +kernel
theorem dX6_again_12 : decode cX6_again 12 = .ok (.aload_n 0, 1) := by decide +kernel
theorem dX6_again_13 : decode cX6_again 13 = .ok (.getfield 51, 3) := by decide +kernel
theorem dX6_again_16 : decode cX6_again 16 = .ok (.iconst 1, 1) := by decide +kernel
theorem dX6_again_17 : decode cX6_again 17 = .ok (.iload_n 1, 1) := by decide +kernel
theorem dX6_again_18 : decode cX6_again 18 = .ok (.ishl, 1) := by decide +kernel
theorem dX6_again_19 : decode cX6_again 19 = .ok (.iand, 1) := by decide +kernel
theorem dX6_again_20 : decode cX6_again 20 = .ok (.ifCond .ne 6, 3) := by decide +kernel
theorem dX6_again_23 : decode cX6_again 23 = .ok (.bipush (-3), 2) := by decide +kernel
theorem dX6_again_25 : decode cX6_again 25 = .ok (.ireturn, 1) := by decide +kernel
theorem dX6_again_26 : decode cX6_again 26 = .ok (.aload_n 0, 1) := by decide +kernel
theorem dX6_again_27 : decode cX6_again 27 = .ok (.getfield 33, 3) := by decide +kernel
theorem dX6_again_30 : decode cX6_again 30 = .ok (.aload_n 2, 1) := by decide +kernel
theorem dX6_again_31 : decode cX6_again 31 = .ok (.invokevirtual 194, 3) := by decide +kernel
theorem dX6_again_34 : decode cX6_again 34 = .ok (.aload_n 0, 1) := by decide +kernel
theorem dX6_again_35 : decode cX6_again 35 = .ok (.getfield 43, 3) := by decide +kernel
theorem dX6_again_38 : decode cX6_again 38 = .ok (.invokevirtual 73, 3) := by decide +kernel
theorem dX6_again_41 : decode cX6_again 41 = .ok (.aload_n 0, 1) := by decide +kernel
theorem dX6_again_42 : decode cX6_again 42 = .ok (.getfield 33, 3) := by decide +kernel
theorem dX6_again_45 : decode cX6_again 45 = .ok (.getfield 276, 3) := by decide +kernel
theorem dX6_again_48 : decode cX6_again 48 = .ok (.ireturn, 1) := by decide +kernel
theorem dX6_count_0 : decode cX6_count 0 = .ok (.iload_n 1, 1) := by decide +kernel
theorem dX6_count_1 : decode cX6_count 1 = .ok (.tableswitch 120 0 8 #[51, 56, 64, 72, 80, 88, 96, 104, 112], 51) := by decide +kernel
theorem dX6_count_52 : decode cX6_count 52 = .ok (.aload_n 0, 1) := by decide +kernel
theorem dX6_count_53 : decode cX6_count 53 = .ok (.getfield 13, 3) := by decide +kernel
theorem dX6_count_56 : decode cX6_count 56 = .ok (.ireturn, 1) := by decide +kernel
theorem dX6_count_57 : decode cX6_count 57 = .ok (.aload_n 0, 1) := by decide +kernel
theorem dX6_count_58 : decode cX6_count 58 = .ok (.getfield 20, 3) := by decide +kernel
theorem dX6_count_61 : decode cX6_count 61 = .ok (.getfield 76, 3) := by decide +kernel
theorem dX6_count_64 : decode cX6_count 64 = .ok (.ireturn, 1) := by decide +kernel
theorem dX6_count_65 : decode cX6_count 65 = .ok (.aload_n 0, 1) := by decide +kernel
theorem dX6_count_66 : decode cX6_count 66 = .ok (.getfield 20, 3) := by decide +kernel
theorem dX6_count_69 : decode cX6_count 69 = .ok (.getfield 79, 3) := by decide +kernel
theorem dX6_count_72 : decode cX6_count 72 = .ok (.ireturn, 1) := by decide +kernel
theorem dX6_count_73 : decode cX6_count 73 = .ok (.aload_n 0, 1) := by decide +kernel
theorem dX6_count_74 : decode cX6_count 74 = .ok (.getfield 33, 3) := by decide +kernel
theorem dX6_count_77 : decode cX6_count 77 = .ok (.getfield 276, 3) := by decide +kernel
theorem dX6_count_80 : decode cX6_count 80 = .ok (.ireturn, 1) := by decide +kernel
theorem dX6_count_81 : decode cX6_count 81 = .ok (.aload_n 0, 1) := by decide +kernel
theorem dX6_count_82 : decode cX6_count 82 = .ok (.getfield 33, 3) := by decide +kernel
theorem dX6_count_85 : decode cX6_count 85 = .ok (.invokevirtual 230, 3) := by decide +kernel
theorem dX6_count_88 : decode cX6_count 88 = .ok (.ireturn, 1) := by decide +kernel
theorem dX6_count_89 : decode cX6_count 89 = .ok (.aload_n 0, 1) := by decide +kernel
theorem dX6_count_90 : decode cX6_count 90 = .ok (.getfield 33, 3) := by decide +kernel
theorem dX6_count_93 : decode cX6_count 93 = .ok (.getfield 279, 3) := by decide +kernel
theorem dX6_count_96 : decode cX6_count 96 = .ok (.ireturn, 1) := by decide +kernel
theorem dX6_count_97 : decode cX6_count 97 = .ok (.aload_n 0, 1) := by decide +kernel
theorem dX6_count_98 : decode cX6_count 98 = .ok (.getfield 33, 3) := by decide +kernel
theorem dX6_count_101 : decode cX6_count 101 = .ok (.invokevirtual 200, 3) := by decide +kernel
theorem dX6_count_104 : decode cX6_count 104 = .ok (.ireturn, 1) := by decide +kernel
theorem dX6_count_105 : decode cX6_count 105 = .ok (.aload_n 0, 1) := by decide +kernel
theorem dX6_count_106 : decode cX6_count 106 = .ok (.getfield 43, 3) := by decide +kernel
theorem dX6_count_109 : decode cX6_count 109 = .ok (.getfield 173, 3) := by decide +kernel
theorem dX6_count_112 : decode cX6_count 112 = .ok (.ireturn, 1) := by decide +kernel
theorem dX6_count_113 : decode cX6_count 113 = .ok (.aload_n 0, 1) := by decide +kernel
theorem dX6_count_114 : decode cX6_count 114 = .ok (.getfield 57, 3) := by decide +kernel
theorem dX6_count_117 : decode cX6_count 117 = .ok (.getfield 215, 3) := by decide +kernel
theorem dX6_count_120 : decode cX6_count 120 = .ok (.ireturn, 1) := by decide +kernel
theorem dX6_count_121 : decode cX6_count 121 = .ok (.bipush (-2), 2) := by decide +kernel
theorem dX6_count_123 : decode cX6_count 123 = .ok (.ireturn, 1) := by decide +kernel
def B_X6_rests_128 (G71 : (Int32 × Int32 × Int32 × Int32 × Int32 × Int32) → Prop) (G80 : (Int32 × Int32 × Int32 × Int32 × Int32 × Int32 × Int32) → Prop) (Z : Nat → Nat → Nat) (Y : Nat → Nat → Nat) (S : Nat → CS) (a : AS) (x3 : Int32) (x4 : Int32) (x5 : Int32) (x6 : Int32) (x7 : Int32) (x8 : Int32) (x9 : Int32) (Q : Int32 → Prop) : Prop := ∀ x9_1 : Int32, x9_1 = x9 + (1 : Int32) → G80 (x3, x4, x5, x6, x7, x8, x9_1)
def B_X6_rests_125 (G71 : (Int32 × Int32 × Int32 × Int32 × Int32 × Int32) → Prop) (G80 : (Int32 × Int32 × Int32 × Int32 × Int32 × Int32 × Int32) → Prop) (Z : Nat → Nat → Nat) (Y : Nat → Nat → Nat) (S : Nat → CS) (a : AS) (x3 : Int32) (x4 : Int32) (x5 : Int32) (x6 : Int32) (x7 : Int32) (x8 : Int32) (x9 : Int32) (Q : Int32 → Prop) : Prop := ∀ x6_2 : Int32, x6_2 = x6 + (1 : Int32) → B_X6_rests_128 G71 G80 Z Y S a x3 x4 x5 x6_2 x7 x8 x9 Q
def LB_X6_rests_80 (G80 : (Int32 × Int32 × Int32 × Int32 × Int32 × Int32 × Int32) → Prop) (G71 : (Int32 × Int32 × Int32 × Int32 × Int32 × Int32) → Prop) (Z : Nat → Nat → Nat) (Y : Nat → Nat → Nat) (S : Nat → CS) (a : AS) (x3 : Int32) (x4 : Int32) (x5 : Int32) (x6 : Int32) (x7 : Int32) (x8 : Int32) (x9 : Int32) (Q : Int32 → Prop) : Prop := (((2 : Int32) < x9 → ∀ x8_4 : Int32, x8_4 = x8 + (1 : Int32) → G71 (x3, x4, x5, x6, x7, x8_4)) ∧ (¬ (2 : Int32) < x9 → wp_X6_isContent x8 x9 x4 (fun r_5 => ((r_5 = 0 → B_X6_rests_128 G71 G80 Z Y S a x3 x4 x5 x6 x7 x8 x9 Q) ∧ (¬ r_5 = 0 → wp_X6_isContent x9 x8 x5 (fun r_7 => ((r_7 = 0 → B_X6_rests_128 G71 G80 Z Y S a x3 x4 x5 x6 x7 x8 x9 Q) ∧ (¬ r_7 = 0 → ((¬ x6 = 0 → B_X6_rests_125 G71 G80 Z Y S a x3 x4 x5 x6 x7 x8 x9 Q) ∧ (x6 = 0 → ∀ x7_10 : Int32, x7_10 = (((10 : Int32) * x8) + x9) → B_X6_rests_125 G71 G80 Z Y S a x3 x4 x5 x6 x7_10 x8 x9 Q))))))))))
def B_X6_rests_80 (G71 : (Int32 × Int32 × Int32 × Int32 × Int32 × Int32) → Prop) (Z : Nat → Nat → Nat) (Y : Nat → Nat → Nat) (S : Nat → CS) (a : AS) (x3 : Int32) (x4 : Int32) (x5 : Int32) (x6 : Int32) (x7 : Int32) (x8 : Int32) (x9 : Int32) (Q : Int32 → Prop) : Prop := LOOP (fun (G80 : (Int32 × Int32 × Int32 × Int32 × Int32 × Int32 × Int32) → Prop) z => LB_X6_rests_80 G80 G71 Z Y S a z.1 z.2.1 z.2.2.1 z.2.2.2.1 z.2.2.2.2.1 z.2.2.2.2.2.1 z.2.2.2.2.2.2 Q) (x3, x4, x5, x6, x7, x8, x9)
def LB_X6_rests_71 (G71 : (Int32 × Int32 × Int32 × Int32 × Int32 × Int32) → Prop) (Z : Nat → Nat → Nat) (Y : Nat → Nat → Nat) (S : Nat → CS) (a : AS) (x3 : Int32) (x4 : Int32) (x5 : Int32) (x6 : Int32) (x7 : Int32) (x8 : Int32) (Q : Int32 → Prop) : Prop := (((2 : Int32) < x8 → ((¬ x3 = 0 → Q x7) ∧ (x3 = 0 → Q x6))) ∧ (¬ (2 : Int32) < x8 → B_X6_rests_80 G71 Z Y S a x3 x4 x5 x6 x7 x8 (1 : Int32) Q))
def B_X6_rests_71 (Z : Nat → Nat → Nat) (Y : Nat → Nat → Nat) (S : Nat → CS) (a : AS) (x3 : Int32) (x4 : Int32) (x5 : Int32) (x6 : Int32) (x7 : Int32) (x8 : Int32) (Q : Int32 → Prop) : Prop := LOOP (fun (G71 : (Int32 × Int32 × Int32 × Int32 × Int32 × Int32) → Prop) z => LB_X6_rests_71 G71 Z Y S a z.1 z.2.1 z.2.2.1 z.2.2.2.1 z.2.2.2.2.1 z.2.2.2.2.2 Q) (x3, x4, x5, x6, x7, x8)
def wp_X6_rests (p0 : Int32) (p1 : Int32) (p2 : Int32) (Z : Nat → Nat → Nat) (Y : Nat → Nat → Nat) (S : Nat → CS) (a : AS) (Q : Int32 → Prop) : Prop := wp_X1_hasOwner p0 (S 1) (fun r_13 => ((r_13 = 0 → Q (-1 : Int32)) ∧ (¬ r_13 = 0 → wp_X1_hasOwner p1 (S 1) (fun r_15 => ((¬ r_15 = 0 → ((p0 = p1 → Q (-2 : Int32)) ∧ (¬ p0 = p1 → ((p2 < 0 → Q (-2 : Int32)) ∧ (¬ p2 < 0 → ((p2 ≤ (1 : Int32) → wp_X5_holeCellsOf p0 (S 4) (fun r_20 => wp_X5_holeCellsOf p1 (S 4) (fun r_21 => B_X6_rests_71 Z Y S a p2 r_20 r_21 (0 : Int32) (-9 : Int32) (1 : Int32) Q))) ∧ (¬ p2 ≤ (1 : Int32) → Q (-2 : Int32)))))))) ∧ (r_15 = 0 → Q (-1 : Int32)))))))
set_option maxHeartbeats 4000000 in
set_option maxRecDepth 100000 in
theorem c_X6_rests (l : Launch) (D : va_G) (cI cZ cW : ClassId) (Z : Nat → Nat → Nat) (Y : Nat → Nat → Nat) (p0 : Int32) (p1 : Int32) (p2 : Int32) (S : Nat → CS) (a : AS) (Q : Int32 → Prop) (hf : wp_X6_rests p0 p1 p2 Z Y S a Q) : Met l yX6_rests (wsA yX6_rests cX6_rests 10 (some .int)) ({ frames := 2, cells := 0, slots := 0, locals := 44 }) (PR D cI cZ cW [.ref (Z 0 0), .int p0, .int p1, .int p2] (XW cI cZ cW Z Y (Z 1 0) (Z 2 0) S a)) (vp_Si Q) 0 0 (fun _ => False) := by
  refine Met.ofW (cc := cX6_rests) (maxL := 10) (ret := (some .int)) (by decide) rfl ?_
  intro p e s m args below meth c s₁ B hml hv
  obtain ⟨rfl, hP, hK⟩ := hv
  have hx := B.exec
  have hb := B.bytes
  have hr := B.returns
  have hts := atoms_spec (ws := (wsA yX6_rests cX6_rests 10 (some .int))) B.pre
  have ht : ∀ w ∈ lw_g, w.before _ s = true := fun w h => hts w (List.mem_cons_of_mem _ h)
  have hown : s.vm.findClass RX6 = some m.cls := findClass_of_methodNamed B.named
  have hlocks := B.notSynchronized
  have hl := lv_entry ([.ref (Z 0 0), .int p0, .int p1, .int p2]) (n := 10) (Nat.le_of_ble_eq_true rfl)
  rw [lg_entry_eq]
  generalize (lg_sl ([.ref (Z 0 0), .int p0, .int p1, .int p2]) ++ List.replicate (10 - (lg_sl ([.ref (Z 0 0), .int p0, .int p1, .int p2])).length) Slot.unset).toArray = ls at hl ⊢
  have hl : lv_has ls 10 [(0, .ref (Z 0 0)), (1, .int p0), (2, .int p1), (3, .int p2)] := hl
  unfold wp_X6_rests at hf
  have k_71 : ∀ (x3 : Int32) (x4 : Int32) (x5 : Int32) (x6 : Int32) (x7 : Int32) (x8 : Int32) (ls : Array Slot), B_X6_rests_71 Z Y S a x3 x4 x5 x6 x7 x8 Q → lv_has ls 10 [(3, .int x3), (4, .int x4), (5, .int x5), (6, .int x6), (7, .int x7), (8, .int x8)] → W p l e (headSpec (wsA yX6_rests cX6_rests 10 (some .int)) ({ frames := 2, cells := 0, slots := 0, locals := 44 })).room s m (#[.ref (Z 0 0), .int p0, .int p1, .int p2] : Array Value) below meth c s.heap [] 0 0 (MQ below (vp_Si Q) (#[.ref (Z 0 0), .int p0, .int p1, .int p2] : Array Value) s 0 0 (fun _ => False)) (F0 m 71 ls []) := by
    intro x3 x4 x5 x6 x7 x8 ls hf hl
    unfold B_X6_rests_71 at hf
    obtain ⟨I_71, ⟨n0_71, hI0_71⟩, hst_71⟩ := hf
    have main_71 : ∀ (n : Nat) (x3 : Int32) (x4 : Int32) (x5 : Int32) (x6 : Int32) (x7 : Int32) (x8 : Int32) (ls : Array Slot), I_71 n (x3, x4, x5, x6, x7, x8) → lv_has ls 10 [(3, .int x3), (4, .int x4), (5, .int x5), (6, .int x6), (7, .int x7), (8, .int x8)] → W p l e (headSpec (wsA yX6_rests cX6_rests 10 (some .int)) ({ frames := 2, cells := 0, slots := 0, locals := 44 })).room s m (#[.ref (Z 0 0), .int p0, .int p1, .int p2] : Array Value) below meth c s.heap [] 0 0 (MQ below (vp_Si Q) (#[.ref (Z 0 0), .int p0, .int p1, .int p2] : Array Value) s 0 0 (fun _ => False)) (F0 m 71 ls []) := by
      intro n
      induction n using Nat.strongRecOn with
      | _ n_71 ih_71 =>
      intro x3 x4 x5 x6 x7 x8 ls hI hl
      have hf : LB_X6_rests_71 (fun z => ∃ k, k < n_71 ∧ I_71 k z) Z Y S a x3 x4 x5 x6 x7 x8 Q := hst_71 n_71 (x3, x4, x5, x6, x7, x8) hI
      have hG_71 : ∀ (x3 : Int32) (x4 : Int32) (x5 : Int32) (x6 : Int32) (x7 : Int32) (x8 : Int32) (ls : Array Slot), (∃ k, k < n_71 ∧ I_71 k (x3, x4, x5, x6, x7, x8)) → lv_has ls 10 [(3, .int x3), (4, .int x4), (5, .int x5), (6, .int x6), (7, .int x7), (8, .int x8)] → W p l e (headSpec (wsA yX6_rests cX6_rests 10 (some .int)) ({ frames := 2, cells := 0, slots := 0, locals := 44 })).room s m (#[.ref (Z 0 0), .int p0, .int p1, .int p2] : Array Value) below meth c s.heap [] 0 0 (MQ below (vp_Si Q) (#[.ref (Z 0 0), .int p0, .int p1, .int p2] : Array Value) s 0 0 (fun _ => False)) (F0 m 71 ls []) := by
        rintro x3 x4 x5 x6 x7 x8 ls ⟨k, hk, hI⟩ hl
        exact ih_71 k hk x3 x4 x5 x6 x7 x8 ls hI hl
      unfold LB_X6_rests_71 at hf
      have k_80 : ∀ (x3 : Int32) (x4 : Int32) (x5 : Int32) (x6 : Int32) (x7 : Int32) (x8 : Int32) (x9 : Int32) (ls : Array Slot), B_X6_rests_80 (fun z => ∃ k, k < n_71 ∧ I_71 k z) Z Y S a x3 x4 x5 x6 x7 x8 x9 Q → lv_has ls 10 [(3, .int x3), (4, .int x4), (5, .int x5), (6, .int x6), (7, .int x7), (8, .int x8), (9, .int x9)] → W p l e (headSpec (wsA yX6_rests cX6_rests 10 (some .int)) ({ frames := 2, cells := 0, slots := 0, locals := 44 })).room s m (#[.ref (Z 0 0), .int p0, .int p1, .int p2] : Array Value) below meth c s.heap [] 0 0 (MQ below (vp_Si Q) (#[.ref (Z 0 0), .int p0, .int p1, .int p2] : Array Value) s 0 0 (fun _ => False)) (F0 m 80 ls []) := by
        intro x3 x4 x5 x6 x7 x8 x9 ls hf hl
        unfold B_X6_rests_80 at hf
        obtain ⟨I_80, ⟨n0_80, hI0_80⟩, hst_80⟩ := hf
        have main_80 : ∀ (n : Nat) (x3 : Int32) (x4 : Int32) (x5 : Int32) (x6 : Int32) (x7 : Int32) (x8 : Int32) (x9 : Int32) (ls : Array Slot), I_80 n (x3, x4, x5, x6, x7, x8, x9) → lv_has ls 10 [(3, .int x3), (4, .int x4), (5, .int x5), (6, .int x6), (7, .int x7), (8, .int x8), (9, .int x9)] → W p l e (headSpec (wsA yX6_rests cX6_rests 10 (some .int)) ({ frames := 2, cells := 0, slots := 0, locals := 44 })).room s m (#[.ref (Z 0 0), .int p0, .int p1, .int p2] : Array Value) below meth c s.heap [] 0 0 (MQ below (vp_Si Q) (#[.ref (Z 0 0), .int p0, .int p1, .int p2] : Array Value) s 0 0 (fun _ => False)) (F0 m 80 ls []) := by
          intro n
          induction n using Nat.strongRecOn with
          | _ n_80 ih_80 =>
          intro x3 x4 x5 x6 x7 x8 x9 ls hI hl
          have hf : LB_X6_rests_80 (fun z => ∃ k, k < n_80 ∧ I_80 k z) (fun z => ∃ k, k < n_71 ∧ I_71 k z) Z Y S a x3 x4 x5 x6 x7 x8 x9 Q := hst_80 n_80 (x3, x4, x5, x6, x7, x8, x9) hI
          have hG_80 : ∀ (x3 : Int32) (x4 : Int32) (x5 : Int32) (x6 : Int32) (x7 : Int32) (x8 : Int32) (x9 : Int32) (ls : Array Slot), (∃ k, k < n_80 ∧ I_80 k (x3, x4, x5, x6, x7, x8, x9)) → lv_has ls 10 [(3, .int x3), (4, .int x4), (5, .int x5), (6, .int x6), (7, .int x7), (8, .int x8), (9, .int x9)] → W p l e (headSpec (wsA yX6_rests cX6_rests 10 (some .int)) ({ frames := 2, cells := 0, slots := 0, locals := 44 })).room s m (#[.ref (Z 0 0), .int p0, .int p1, .int p2] : Array Value) below meth c s.heap [] 0 0 (MQ below (vp_Si Q) (#[.ref (Z 0 0), .int p0, .int p1, .int p2] : Array Value) s 0 0 (fun _ => False)) (F0 m 80 ls []) := by
            rintro x3 x4 x5 x6 x7 x8 x9 ls ⟨k, hk, hI⟩ hl
            exact ih_80 k hk x3 x4 x5 x6 x7 x8 x9 ls hI hl
          unfold LB_X6_rests_80 at hf
          have k_128 : ∀ (x3 : Int32) (x4 : Int32) (x5 : Int32) (x6 : Int32) (x7 : Int32) (x8 : Int32) (x9 : Int32) (ls : Array Slot), B_X6_rests_128 (fun z => ∃ k, k < n_71 ∧ I_71 k z) (fun z => ∃ k, k < n_80 ∧ I_80 k z) Z Y S a x3 x4 x5 x6 x7 x8 x9 Q → lv_has ls 10 [(3, .int x3), (4, .int x4), (5, .int x5), (6, .int x6), (7, .int x7), (8, .int x8), (9, .int x9)] → W p l e (headSpec (wsA yX6_rests cX6_rests 10 (some .int)) ({ frames := 2, cells := 0, slots := 0, locals := 44 })).room s m (#[.ref (Z 0 0), .int p0, .int p1, .int p2] : Array Value) below meth c s.heap [] 0 0 (MQ below (vp_Si Q) (#[.ref (Z 0 0), .int p0, .int p1, .int p2] : Array Value) s 0 0 (fun _ => False)) (F0 m 128 ls []) := by
            intro x3 x4 x5 x6 x7 x8 x9 ls hf hl
            unfold B_X6_rests_128 at hf
            obtain ⟨x9_1, ex9_1⟩ : ∃ y : Int32, y = x9 + (1 : Int32) := ⟨_, rfl⟩
            have hf := hf x9_1 ex9_1
            refine lv_iinc (v := x9_1) (lv' := [(9, .int x9_1), (3, .int x3), (4, .int x4), (5, .int x5), (6, .int x6), (7, .int x7), (8, .int x8)]) hx hb dX6_rests_128 hl (k := 6) rfl (by rw [ex9_1]; rfl) (by decide) rfl (fun ls hl => ?_)
            refine lv_goto (tgt := 80) hx hb dX6_rests_131 (by decide) ?_
            exact hG_80 x3 x4 x5 x6 x7 x8 x9_1 ls hf (lv_sub hl [1, 2, 3, 4, 5, 6, 0] rfl)
          have k_125 : ∀ (x3 : Int32) (x4 : Int32) (x5 : Int32) (x6 : Int32) (x7 : Int32) (x8 : Int32) (x9 : Int32) (ls : Array Slot), B_X6_rests_125 (fun z => ∃ k, k < n_71 ∧ I_71 k z) (fun z => ∃ k, k < n_80 ∧ I_80 k z) Z Y S a x3 x4 x5 x6 x7 x8 x9 Q → lv_has ls 10 [(3, .int x3), (4, .int x4), (5, .int x5), (6, .int x6), (7, .int x7), (8, .int x8), (9, .int x9)] → W p l e (headSpec (wsA yX6_rests cX6_rests 10 (some .int)) ({ frames := 2, cells := 0, slots := 0, locals := 44 })).room s m (#[.ref (Z 0 0), .int p0, .int p1, .int p2] : Array Value) below meth c s.heap [] 0 0 (MQ below (vp_Si Q) (#[.ref (Z 0 0), .int p0, .int p1, .int p2] : Array Value) s 0 0 (fun _ => False)) (F0 m 125 ls []) := by
            intro x3 x4 x5 x6 x7 x8 x9 ls hf hl
            unfold B_X6_rests_125 at hf
            obtain ⟨x6_2, ex6_2⟩ : ∃ y : Int32, y = x6 + (1 : Int32) := ⟨_, rfl⟩
            have hf := hf x6_2 ex6_2
            refine lv_iinc (v := x6_2) (lv' := [(6, .int x6_2), (3, .int x3), (4, .int x4), (5, .int x5), (7, .int x7), (8, .int x8), (9, .int x9)]) hx hb dX6_rests_125 hl (k := 3) rfl (by rw [ex6_2]; rfl) (by decide) rfl (fun ls hl => ?_)
            exact k_128 x3 x4 x5 x6_2 x7 x8 x9 ls hf (lv_sub hl [1, 2, 3, 0, 4, 5, 6] rfl)
          refine lv_iload hx hb dX6_rests_80 (lv_at hl 6 rfl) ?_
          refine lv_iconst (v := (2 : Int32)) hx hb dX6_rests_82 (by decide) ?_
          refine lv_icmp_gt (tgt := 134) hx hb dX6_rests_83 (by decide) (fun c_3 => ?_) (fun c_3 => ?_)
          · have hf := hf.1 c_3
            obtain ⟨x8_4, ex8_4⟩ : ∃ y : Int32, y = x8 + (1 : Int32) := ⟨_, rfl⟩
            have hf := hf x8_4 ex8_4
            refine lv_iinc (v := x8_4) (lv' := [(8, .int x8_4), (3, .int x3), (4, .int x4), (5, .int x5), (6, .int x6), (7, .int x7), (9, .int x9)]) hx hb dX6_rests_134 hl (k := 5) rfl (by rw [ex8_4]; rfl) (by decide) rfl (fun ls hl => ?_)
            refine lv_goto (tgt := 71) hx hb dX6_rests_137 (by decide) ?_
            exact hG_71 x3 x4 x5 x6 x7 x8_4 ls hf (lv_sub hl [1, 2, 3, 4, 5, 0] rfl)
          · have hf := hf.2 c_3
            refine lv_iload hx hb dX6_rests_86 (lv_at hl 5 rfl) ?_
            refine lv_iload hx hb dX6_rests_88 (lv_at hl 6 rfl) ?_
            refine lv_iload hx hb dX6_rests_90 (lv_at hl 1 rfl) ?_
            have hPc : va_P D classes ([] : va_W) s.heap := fun k q h => by simp at h
            refine vp_callSi (W.runS (As := [.int x8, .int x9, .int x4]) (rest := []) ⟨hx, hb, hml, hown, hts⟩ (c_X6_isContent l D cI cZ cW  x8 x9 x4 _ hf) ⟨callB_of 3 hts (gA tw_607) rfl rfl rfl (ht _ tw_1) (ht _ tw_605) hd_X6_isContent ⟨Nat.le_of_ble_eq_true rfl, Nat.le_of_ble_eq_true rfl⟩, ht _ tw_606⟩ ⟨PR_blind, fun U hU hW => PR_mk hPc hK hU hW⟩ rfl rfl hl.1 rfl (lv_room (Nat.le_of_ble_eq_true rfl)) dX6_rests_92 ⟨Nat.zero_le _, Nat.zero_le _⟩) (fun r_5 hf => ?_)
            refine lv_if_eq (tgt := 128) hx hb dX6_rests_95 (by decide) (fun c_6 => ?_) (fun c_6 => ?_)
            · have hf := hf.1 c_6
              exact k_128 x3 x4 x5 x6 x7 x8 x9 ls hf (lv_sub hl [0, 1, 2, 3, 4, 5, 6] rfl)
            · have hf := hf.2 c_6
              refine lv_iload hx hb dX6_rests_98 (lv_at hl 6 rfl) ?_
              refine lv_iload hx hb dX6_rests_100 (lv_at hl 5 rfl) ?_
              refine lv_iload hx hb dX6_rests_102 (lv_at hl 2 rfl) ?_
              have hPc : va_P D classes ([] : va_W) s.heap := fun k q h => by simp at h
              refine vp_callSi (W.runS (As := [.int x9, .int x8, .int x5]) (rest := []) ⟨hx, hb, hml, hown, hts⟩ (c_X6_isContent l D cI cZ cW  x9 x8 x5 _ hf) ⟨callB_of 3 hts (gA tw_607) rfl rfl rfl (ht _ tw_1) (ht _ tw_605) hd_X6_isContent ⟨Nat.le_of_ble_eq_true rfl, Nat.le_of_ble_eq_true rfl⟩, ht _ tw_606⟩ ⟨PR_blind, fun U hU hW => PR_mk hPc hK hU hW⟩ rfl rfl hl.1 rfl (lv_room (Nat.le_of_ble_eq_true rfl)) dX6_rests_104 ⟨Nat.zero_le _, Nat.zero_le _⟩) (fun r_7 hf => ?_)
              refine lv_if_eq (tgt := 128) hx hb dX6_rests_107 (by decide) (fun c_8 => ?_) (fun c_8 => ?_)
              · have hf := hf.1 c_8
                exact k_128 x3 x4 x5 x6 x7 x8 x9 ls hf (lv_sub hl [0, 1, 2, 3, 4, 5, 6] rfl)
              · have hf := hf.2 c_8
                refine lv_iload hx hb dX6_rests_110 (lv_at hl 3 rfl) ?_
                refine lv_if_ne (tgt := 125) hx hb dX6_rests_112 (by decide) (fun c_9 => ?_) (fun c_9 => ?_)
                · have hf := hf.1 c_9
                  exact k_125 x3 x4 x5 x6 x7 x8 x9 ls hf (lv_sub hl [0, 1, 2, 3, 4, 5, 6] rfl)
                · have hf := hf.2 c_9
                  refine lv_bipush (v := (10 : Int32)) hx hb dX6_rests_115 (by decide) ?_
                  refine lv_iload hx hb dX6_rests_117 (lv_at hl 5 rfl) ?_
                  refine lv_imul hx hb dX6_rests_119 ?_
                  refine lv_iload hx hb dX6_rests_120 (lv_at hl 6 rfl) ?_
                  refine lv_iadd hx hb dX6_rests_122 ?_
                  refine lv_topi (fun x7_10 ex7_10 => ?_)
                  have hf := hf x7_10 ex7_10
                  refine lv_istore (lv' := [(7, .int x7_10), (3, .int x3), (4, .int x4), (5, .int x5), (6, .int x6), (8, .int x8), (9, .int x9)]) hx hb dX6_rests_123 hl (by decide) rfl (fun ls hl => ?_)
                  exact k_125 x3 x4 x5 x6 x7_10 x8 x9 ls hf (lv_sub hl [1, 2, 3, 4, 0, 5, 6] rfl)
        exact main_80 n0_80 x3 x4 x5 x6 x7 x8 x9 ls hI0_80 hl
      refine lv_iload hx hb dX6_rests_71 (lv_at hl 5 rfl) ?_
      refine lv_iconst (v := (2 : Int32)) hx hb dX6_rests_73 (by decide) ?_
      refine lv_icmp_gt (tgt := 140) hx hb dX6_rests_74 (by decide) (fun c_11 => ?_) (fun c_11 => ?_)
      · have hf := hf.1 c_11
        refine lv_iload_n hx hb dX6_rests_140 rfl (lv_at hl 0 rfl) ?_
        refine lv_if_ne (tgt := 149) hx hb dX6_rests_141 (by decide) (fun c_12 => ?_) (fun c_12 => ?_)
        · have hf := hf.1 c_12
          refine lv_iload hx hb dX6_rests_149 (lv_at hl 4 rfl) ?_
          exact W.iret (v := x7) hx hb hr (fun t ht hW => ⟨x7, rfl, hf, ht⟩) (fun q h => absurd h List.not_mem_nil) dX6_rests_151
        · have hf := hf.2 c_12
          refine lv_iload hx hb dX6_rests_144 (lv_at hl 3 rfl) ?_
          refine lv_goto (tgt := 151) hx hb dX6_rests_146 (by decide) ?_
          exact W.iret (v := x6) hx hb hr (fun t ht hW => ⟨x6, rfl, hf, ht⟩) (fun q h => absurd h List.not_mem_nil) dX6_rests_151
      · have hf := hf.2 c_11
        refine lv_iconst (v := (1 : Int32)) hx hb dX6_rests_77 (by decide) ?_
        refine lv_istore (lv' := [(9, .int (1 : Int32)), (3, .int x3), (4, .int x4), (5, .int x5), (6, .int x6), (7, .int x7), (8, .int x8)]) hx hb dX6_rests_78 hl (by decide) rfl (fun ls hl => ?_)
        exact k_80 x3 x4 x5 x6 x7 x8 (1 : Int32) ls hf (lv_sub hl [1, 2, 3, 4, 5, 6, 0] rfl)
    exact main_71 n0_71 x3 x4 x5 x6 x7 x8 ls hI0_71 hl
  refine lv_aload_n hx hb dX6_rests_0 rfl (lv_at hl 0 rfl) ?_
  refine va_get (D := D) (ci := 4) (v := .ref (Z 1 0)) (C := RX6) (T := TX6) (N := 12) hx hb ht inX6 hown hK hP 0 eX_0 rfl 2 (by decide) (ht _ tw_155) (fun _ h9 => h9) rfl dX6_rests_1 ?_
  refine lv_iload_n hx hb dX6_rests_4 rfl (lv_at hl 1 rfl) ?_
  have hPc : va_P D classes (wD cI cZ (Z 1) (S 1)) s.heap := XP_1 hP
  refine vp_callSi (W.runV (As := [.int p0]) (rest := []) ⟨hx, hb, hml, hown, hts⟩ (c_X1_hasOwner l D cI cZ cW (Z 1) p0 (S 1) _ hf) ⟨callB_of 1 hts (gA tw_232) rfl rfl rfl (ht _ tw_2) (ht _ tw_275) hd_X1_hasOwner ⟨Nat.le_of_ble_eq_true rfl, Nat.le_of_ble_eq_true rfl⟩, ht _ tw_230, ht _ tw_231⟩ ⟨PR_blind, va_recv hK hP (ci := 1) (q0 := 3) rfl eX_3, fun U hU hW => PR_mk hPc hK hU hW⟩ rfl rfl hl.1 rfl (lv_room (Nat.le_of_ble_eq_true rfl)) dX6_rests_5 ⟨Nat.zero_le _, Nat.zero_le _⟩) (fun r_13 hf => ?_)
  refine lv_if_eq (tgt := 22) hx hb dX6_rests_8 (by decide) (fun c_14 => ?_) (fun c_14 => ?_)
  · have hf := hf.1 c_14
    refine lv_iconst (v := (-1 : Int32)) hx hb dX6_rests_22 (by decide) ?_
    exact W.iret (v := (-1 : Int32)) hx hb hr (fun t ht hW => ⟨(-1 : Int32), rfl, hf, ht⟩) (fun q h => absurd h List.not_mem_nil) dX6_rests_23
  · have hf := hf.2 c_14
    refine lv_aload_n hx hb dX6_rests_11 rfl (lv_at hl 0 rfl) ?_
    refine va_get (D := D) (ci := 4) (v := .ref (Z 1 0)) (C := RX6) (T := TX6) (N := 12) hx hb ht inX6 hown hK hP 0 eX_0 rfl 2 (by decide) (ht _ tw_155) (fun _ h9 => h9) rfl dX6_rests_12 ?_
    refine lv_iload_n hx hb dX6_rests_15 rfl (lv_at hl 2 rfl) ?_
    have hPc : va_P D classes (wD cI cZ (Z 1) (S 1)) s.heap := XP_1 hP
    refine vp_callSi (W.runV (As := [.int p1]) (rest := []) ⟨hx, hb, hml, hown, hts⟩ (c_X1_hasOwner l D cI cZ cW (Z 1) p1 (S 1) _ hf) ⟨callB_of 1 hts (gA tw_232) rfl rfl rfl (ht _ tw_2) (ht _ tw_275) hd_X1_hasOwner ⟨Nat.le_of_ble_eq_true rfl, Nat.le_of_ble_eq_true rfl⟩, ht _ tw_230, ht _ tw_231⟩ ⟨PR_blind, va_recv hK hP (ci := 1) (q0 := 3) rfl eX_3, fun U hU hW => PR_mk hPc hK hU hW⟩ rfl rfl hl.1 rfl (lv_room (Nat.le_of_ble_eq_true rfl)) dX6_rests_16 ⟨Nat.zero_le _, Nat.zero_le _⟩) (fun r_15 hf => ?_)
    refine lv_if_ne (tgt := 24) hx hb dX6_rests_19 (by decide) (fun c_16 => ?_) (fun c_16 => ?_)
    · have hf := hf.1 c_16
      refine lv_iload_n hx hb dX6_rests_24 rfl (lv_at hl 1 rfl) ?_
      refine lv_iload_n hx hb dX6_rests_25 rfl (lv_at hl 2 rfl) ?_
      refine lv_icmp_eq (tgt := 38) hx hb dX6_rests_26 (by decide) (fun c_17 => ?_) (fun c_17 => ?_)
      · have hf := hf.1 c_17
        refine lv_bipush (v := (-2 : Int32)) hx hb dX6_rests_38 (by decide) ?_
        exact W.iret (v := (-2 : Int32)) hx hb hr (fun t ht hW => ⟨(-2 : Int32), rfl, hf, ht⟩) (fun q h => absurd h List.not_mem_nil) dX6_rests_40
      · have hf := hf.2 c_17
        refine lv_iload_n hx hb dX6_rests_29 rfl (lv_at hl 3 rfl) ?_
        refine lv_if_lt (tgt := 38) hx hb dX6_rests_30 (by decide) (fun c_18 => ?_) (fun c_18 => ?_)
        · have hf := hf.1 c_18
          refine lv_bipush (v := (-2 : Int32)) hx hb dX6_rests_38 (by decide) ?_
          exact W.iret (v := (-2 : Int32)) hx hb hr (fun t ht hW => ⟨(-2 : Int32), rfl, hf, ht⟩) (fun q h => absurd h List.not_mem_nil) dX6_rests_40
        · have hf := hf.2 c_18
          refine lv_iload_n hx hb dX6_rests_33 rfl (lv_at hl 3 rfl) ?_
          refine lv_iconst (v := (1 : Int32)) hx hb dX6_rests_34 (by decide) ?_
          refine lv_icmp_le (tgt := 41) hx hb dX6_rests_35 (by decide) (fun c_19 => ?_) (fun c_19 => ?_)
          · have hf := hf.1 c_19
            refine lv_aload_n hx hb dX6_rests_41 rfl (lv_at hl 0 rfl) ?_
            refine va_get (D := D) (ci := 4) (v := .ref (Z 4 0)) (C := RX6) (T := TX6) (N := 12) hx hb ht inX6 hown hK hP 0 eX_0 rfl 5 (by decide) (ht _ tw_158) (fun _ h9 => h9) rfl dX6_rests_42 ?_
            refine lv_iload_n hx hb dX6_rests_45 rfl (lv_at hl 1 rfl) ?_
            have hPc : va_P D classes (wW cI cZ (Z 4) (S 4)) s.heap := XP_4 hP
            refine vp_callSi (W.runV (As := [.int p0]) (rest := []) ⟨hx, hb, hml, hown, hts⟩ (c_X5_holeCellsOf l D cI cZ cW (Z 4) p0 (S 4) _ hf) ⟨callB_of 1 hts (gA tw_599) rfl rfl rfl (ht _ tw_4) (ht _ tw_596) hd_X5_holeCellsOf ⟨Nat.le_of_ble_eq_true rfl, Nat.le_of_ble_eq_true rfl⟩, ht _ tw_597, ht _ tw_598⟩ ⟨PR_blind, va_recv hK hP (ci := 3) (q0 := 21) rfl eX_21, fun U hU hW => PR_mk hPc hK hU hW⟩ rfl rfl hl.1 rfl (lv_room (Nat.le_of_ble_eq_true rfl)) dX6_rests_46 ⟨Nat.zero_le _, Nat.zero_le _⟩) (fun r_20 hf => ?_)
            refine lv_istore (lv' := [(4, .int r_20), (0, .ref (Z 0 0)), (1, .int p0), (2, .int p1), (3, .int p2)]) hx hb dX6_rests_49 hl (by decide) rfl (fun ls hl => ?_)
            refine lv_aload_n hx hb dX6_rests_51 rfl (lv_at hl 1 rfl) ?_
            refine va_get (D := D) (ci := 4) (v := .ref (Z 4 0)) (C := RX6) (T := TX6) (N := 12) hx hb ht inX6 hown hK hP 0 eX_0 rfl 5 (by decide) (ht _ tw_158) (fun _ h9 => h9) rfl dX6_rests_52 ?_
            refine lv_iload_n hx hb dX6_rests_55 rfl (lv_at hl 3 rfl) ?_
            have hPc : va_P D classes (wW cI cZ (Z 4) (S 4)) s.heap := XP_4 hP
            refine vp_callSi (W.runV (As := [.int p1]) (rest := []) ⟨hx, hb, hml, hown, hts⟩ (c_X5_holeCellsOf l D cI cZ cW (Z 4) p1 (S 4) _ hf) ⟨callB_of 1 hts (gA tw_599) rfl rfl rfl (ht _ tw_4) (ht _ tw_596) hd_X5_holeCellsOf ⟨Nat.le_of_ble_eq_true rfl, Nat.le_of_ble_eq_true rfl⟩, ht _ tw_597, ht _ tw_598⟩ ⟨PR_blind, va_recv hK hP (ci := 3) (q0 := 21) rfl eX_21, fun U hU hW => PR_mk hPc hK hU hW⟩ rfl rfl hl.1 rfl (lv_room (Nat.le_of_ble_eq_true rfl)) dX6_rests_56 ⟨Nat.zero_le _, Nat.zero_le _⟩) (fun r_21 hf => ?_)
            refine lv_istore (lv' := [(5, .int r_21), (4, .int r_20), (0, .ref (Z 0 0)), (1, .int p0), (2, .int p1), (3, .int p2)]) hx hb dX6_rests_59 hl (by decide) rfl (fun ls hl => ?_)
            refine lv_iconst (v := (0 : Int32)) hx hb dX6_rests_61 (by decide) ?_
            refine lv_istore (lv' := [(6, .int (0 : Int32)), (5, .int r_21), (4, .int r_20), (0, .ref (Z 0 0)), (1, .int p0), (2, .int p1), (3, .int p2)]) hx hb dX6_rests_62 hl (by decide) rfl (fun ls hl => ?_)
            refine lv_bipush (v := (-9 : Int32)) hx hb dX6_rests_64 (by decide) ?_
            refine lv_istore (lv' := [(7, .int (-9 : Int32)), (6, .int (0 : Int32)), (5, .int r_21), (4, .int r_20), (0, .ref (Z 0 0)), (1, .int p0), (2, .int p1), (3, .int p2)]) hx hb dX6_rests_66 hl (by decide) rfl (fun ls hl => ?_)
            refine lv_iconst (v := (1 : Int32)) hx hb dX6_rests_68 (by decide) ?_
            refine lv_istore (lv' := [(8, .int (1 : Int32)), (7, .int (-9 : Int32)), (6, .int (0 : Int32)), (5, .int r_21), (4, .int r_20), (0, .ref (Z 0 0)), (1, .int p0), (2, .int p1), (3, .int p2)]) hx hb dX6_rests_69 hl (by decide) rfl (fun ls hl => ?_)
            exact k_71 p2 r_20 r_21 (0 : Int32) (-9 : Int32) (1 : Int32) ls hf (lv_sub hl [8, 4, 3, 2, 1, 0] rfl)
          · have hf := hf.2 c_19
            refine lv_bipush (v := (-2 : Int32)) hx hb dX6_rests_38 (by decide) ?_
            exact W.iret (v := (-2 : Int32)) hx hb hr (fun t ht hW => ⟨(-2 : Int32), rfl, hf, ht⟩) (fun q h => absurd h List.not_mem_nil) dX6_rests_40
    · have hf := hf.2 c_16
      refine lv_iconst (v := (-1 : Int32)) hx hb dX6_rests_22 (by decide) ?_
      exact W.iret (v := (-1 : Int32)) hx hb hr (fun t ht hW => ⟨(-1 : Int32), rfl, hf, ht⟩) (fun q h => absurd h List.not_mem_nil) dX6_rests_23
def B_X6_weightOfShut_42 (G5 : (Int32 × Int32 × Int32 × Int32 × Int32) → Prop)  (x0 : Int32) (x1 : Int32) (x2 : Int32) (x3 : Int32) (x4 : Int32) (Q : Int32 → Prop) : Prop := ∀ x4_1 : Int32, x4_1 = x4 + (1 : Int32) → G5 (x0, x1, x2, x3, x4_1)
def B_X6_weightOfShut_40 (G5 : (Int32 × Int32 × Int32 × Int32 × Int32) → Prop)  (x0 : Int32) (x1 : Int32) (x2 : Int32) (x4 : Int32) (t0 : Int32) (t1 : Int32) (Q : Int32 → Prop) : Prop := ∀ x3_2 : Int32, x3_2 = (t1 * t0) → B_X6_weightOfShut_42 G5  x0 x1 x2 x3_2 x4 Q
def LB_X6_weightOfShut_5 (G5 : (Int32 × Int32 × Int32 × Int32 × Int32) → Prop)  (x0 : Int32) (x1 : Int32) (x2 : Int32) (x3 : Int32) (x4 : Int32) (Q : Int32 → Prop) : Prop := (((5 : Int32) ≤ x4 → Q x3) ∧ (¬ (5 : Int32) ≤ x4 → ∀ x5_4 : Int32, x5_4 = ((1 : Int32) <<< (x4 &&& 31)) → (((x1 &&& x5_4) = 0 → B_X6_weightOfShut_42 G5  x0 x1 x2 x3 x4 Q) ∧ (¬ (x1 &&& x5_4) = 0 → (((x0 &&& x5_4) = 0 → B_X6_weightOfShut_40 G5  x0 x1 x2 x4 ((10 : Int32) - x2) x3 Q) ∧ (¬ (x0 &&& x5_4) = 0 → B_X6_weightOfShut_40 G5  x0 x1 x2 x4 x2 x3 Q))))))
def B_X6_weightOfShut_5  (x0 : Int32) (x1 : Int32) (x2 : Int32) (x3 : Int32) (x4 : Int32) (Q : Int32 → Prop) : Prop := LOOP (fun (G5 : (Int32 × Int32 × Int32 × Int32 × Int32) → Prop) z => LB_X6_weightOfShut_5 G5  z.1 z.2.1 z.2.2.1 z.2.2.2.1 z.2.2.2.2 Q) (x0, x1, x2, x3, x4)
def wp_X6_weightOfShut (p0 : Int32) (p1 : Int32) (p2 : Int32) (Q : Int32 → Prop) : Prop := B_X6_weightOfShut_5  p0 p1 p2 (1 : Int32) (0 : Int32) Q
set_option maxHeartbeats 4000000 in
set_option maxRecDepth 100000 in
theorem c_X6_weightOfShut (l : Launch) (D : va_G) (cI cZ cW : ClassId)  (p0 : Int32) (p1 : Int32) (p2 : Int32) (Q : Int32 → Prop) (hf : wp_X6_weightOfShut p0 p1 p2 Q) : Met l yX6_weightOfShut (wsA yX6_weightOfShut cX6_weightOfShut 6 (some .int)) ({ frames := 0, cells := 0, slots := 0, locals := 0 }) (PR D cI cZ cW [.int p0, .int p1, .int p2] ([] : va_W)) (vp_Si Q) 0 0 (fun _ => False) := by
  refine Met.ofW (cc := cX6_weightOfShut) (maxL := 6) (ret := (some .int)) (by decide) rfl ?_
  intro p e s m args below meth c s₁ B hml hv
  obtain ⟨rfl, hP, hK⟩ := hv
  have hx := B.exec
  have hb := B.bytes
  have hr := B.returns
  have hts := atoms_spec (ws := (wsA yX6_weightOfShut cX6_weightOfShut 6 (some .int))) B.pre
  have ht : ∀ w ∈ lw_g, w.before _ s = true := fun w h => hts w (List.mem_cons_of_mem _ h)
  have hown : s.vm.findClass RX6 = some m.cls := findClass_of_methodNamed B.named
  have hlocks := B.notSynchronized
  have hl := lv_entry ([.int p0, .int p1, .int p2]) (n := 6) (Nat.le_of_ble_eq_true rfl)
  rw [lg_entry_eq]
  generalize (lg_sl ([.int p0, .int p1, .int p2]) ++ List.replicate (6 - (lg_sl ([.int p0, .int p1, .int p2])).length) Slot.unset).toArray = ls at hl ⊢
  have hl : lv_has ls 6 [(0, .int p0), (1, .int p1), (2, .int p2)] := hl
  unfold wp_X6_weightOfShut at hf
  have k_5 : ∀ (x0 : Int32) (x1 : Int32) (x2 : Int32) (x3 : Int32) (x4 : Int32) (ls : Array Slot), B_X6_weightOfShut_5  x0 x1 x2 x3 x4 Q → lv_has ls 6 [(0, .int x0), (1, .int x1), (2, .int x2), (3, .int x3), (4, .int x4)] → W p l e (headSpec (wsA yX6_weightOfShut cX6_weightOfShut 6 (some .int)) ({ frames := 0, cells := 0, slots := 0, locals := 0 })).room s m (#[.int p0, .int p1, .int p2] : Array Value) below meth c s.heap [] 0 0 (MQ below (vp_Si Q) (#[.int p0, .int p1, .int p2] : Array Value) s 0 0 (fun _ => False)) (F0 m 5 ls []) := by
    intro x0 x1 x2 x3 x4 ls hf hl
    unfold B_X6_weightOfShut_5 at hf
    obtain ⟨I_5, ⟨n0_5, hI0_5⟩, hst_5⟩ := hf
    have main_5 : ∀ (n : Nat) (x0 : Int32) (x1 : Int32) (x2 : Int32) (x3 : Int32) (x4 : Int32) (ls : Array Slot), I_5 n (x0, x1, x2, x3, x4) → lv_has ls 6 [(0, .int x0), (1, .int x1), (2, .int x2), (3, .int x3), (4, .int x4)] → W p l e (headSpec (wsA yX6_weightOfShut cX6_weightOfShut 6 (some .int)) ({ frames := 0, cells := 0, slots := 0, locals := 0 })).room s m (#[.int p0, .int p1, .int p2] : Array Value) below meth c s.heap [] 0 0 (MQ below (vp_Si Q) (#[.int p0, .int p1, .int p2] : Array Value) s 0 0 (fun _ => False)) (F0 m 5 ls []) := by
      intro n
      induction n using Nat.strongRecOn with
      | _ n_5 ih_5 =>
      intro x0 x1 x2 x3 x4 ls hI hl
      have hf : LB_X6_weightOfShut_5 (fun z => ∃ k, k < n_5 ∧ I_5 k z)  x0 x1 x2 x3 x4 Q := hst_5 n_5 (x0, x1, x2, x3, x4) hI
      have hG_5 : ∀ (x0 : Int32) (x1 : Int32) (x2 : Int32) (x3 : Int32) (x4 : Int32) (ls : Array Slot), (∃ k, k < n_5 ∧ I_5 k (x0, x1, x2, x3, x4)) → lv_has ls 6 [(0, .int x0), (1, .int x1), (2, .int x2), (3, .int x3), (4, .int x4)] → W p l e (headSpec (wsA yX6_weightOfShut cX6_weightOfShut 6 (some .int)) ({ frames := 0, cells := 0, slots := 0, locals := 0 })).room s m (#[.int p0, .int p1, .int p2] : Array Value) below meth c s.heap [] 0 0 (MQ below (vp_Si Q) (#[.int p0, .int p1, .int p2] : Array Value) s 0 0 (fun _ => False)) (F0 m 5 ls []) := by
        rintro x0 x1 x2 x3 x4 ls ⟨k, hk, hI⟩ hl
        exact ih_5 k hk x0 x1 x2 x3 x4 ls hI hl
      unfold LB_X6_weightOfShut_5 at hf
      have k_42 : ∀ (x0 : Int32) (x1 : Int32) (x2 : Int32) (x3 : Int32) (x4 : Int32) (ls : Array Slot), B_X6_weightOfShut_42 (fun z => ∃ k, k < n_5 ∧ I_5 k z)  x0 x1 x2 x3 x4 Q → lv_has ls 6 [(0, .int x0), (1, .int x1), (2, .int x2), (3, .int x3), (4, .int x4)] → W p l e (headSpec (wsA yX6_weightOfShut cX6_weightOfShut 6 (some .int)) ({ frames := 0, cells := 0, slots := 0, locals := 0 })).room s m (#[.int p0, .int p1, .int p2] : Array Value) below meth c s.heap [] 0 0 (MQ below (vp_Si Q) (#[.int p0, .int p1, .int p2] : Array Value) s 0 0 (fun _ => False)) (F0 m 42 ls []) := by
        intro x0 x1 x2 x3 x4 ls hf hl
        unfold B_X6_weightOfShut_42 at hf
        obtain ⟨x4_1, ex4_1⟩ : ∃ y : Int32, y = x4 + (1 : Int32) := ⟨_, rfl⟩
        have hf := hf x4_1 ex4_1
        refine lv_iinc (v := x4_1) (lv' := [(4, .int x4_1), (0, .int x0), (1, .int x1), (2, .int x2), (3, .int x3)]) hx hb dX6_weightOfShut_42 hl (k := 4) rfl (by rw [ex4_1]; rfl) (by decide) rfl (fun ls hl => ?_)
        refine lv_goto (tgt := 5) hx hb dX6_weightOfShut_45 (by decide) ?_
        exact hG_5 x0 x1 x2 x3 x4_1 ls hf (lv_sub hl [1, 2, 3, 4, 0] rfl)
      have k_40 : ∀ (x0 : Int32) (x1 : Int32) (x2 : Int32) (x4 : Int32) (t0 : Int32) (t1 : Int32) (ls : Array Slot), B_X6_weightOfShut_40 (fun z => ∃ k, k < n_5 ∧ I_5 k z)  x0 x1 x2 x4 t0 t1 Q → lv_has ls 6 [(0, .int x0), (1, .int x1), (2, .int x2), (4, .int x4)] → W p l e (headSpec (wsA yX6_weightOfShut cX6_weightOfShut 6 (some .int)) ({ frames := 0, cells := 0, slots := 0, locals := 0 })).room s m (#[.int p0, .int p1, .int p2] : Array Value) below meth c s.heap [] 0 0 (MQ below (vp_Si Q) (#[.int p0, .int p1, .int p2] : Array Value) s 0 0 (fun _ => False)) (F0 m 40 ls [.int t0, .int t1]) := by
        intro x0 x1 x2 x4 t0 t1 ls hf hl
        unfold B_X6_weightOfShut_40 at hf
        refine lv_imul hx hb dX6_weightOfShut_40 ?_
        refine lv_topi (fun x3_2 ex3_2 => ?_)
        have hf := hf x3_2 ex3_2
        refine lv_istore_n (lv' := [(3, .int x3_2), (0, .int x0), (1, .int x1), (2, .int x2), (4, .int x4)]) hx hb dX6_weightOfShut_41 rfl hl (by decide) rfl (fun ls hl => ?_)
        exact k_42 x0 x1 x2 x3_2 x4 ls hf (lv_sub hl [1, 2, 3, 0, 4] rfl)
      refine lv_iload hx hb dX6_weightOfShut_5 (lv_at hl 4 rfl) ?_
      refine lv_iconst (v := (5 : Int32)) hx hb dX6_weightOfShut_7 (by decide) ?_
      refine lv_icmp_ge (tgt := 48) hx hb dX6_weightOfShut_8 (by decide) (fun c_3 => ?_) (fun c_3 => ?_)
      · have hf := hf.1 c_3
        refine lv_iload_n hx hb dX6_weightOfShut_48 rfl (lv_at hl 3 rfl) ?_
        exact W.iret (v := x3) hx hb hr (fun t ht hW => ⟨x3, rfl, hf, ht⟩) (fun q h => absurd h List.not_mem_nil) dX6_weightOfShut_49
      · have hf := hf.2 c_3
        refine lv_iconst (v := (1 : Int32)) hx hb dX6_weightOfShut_11 (by decide) ?_
        refine lv_iload hx hb dX6_weightOfShut_12 (lv_at hl 4 rfl) ?_
        refine lv_ishl hx hb dX6_weightOfShut_14 ?_
        refine lv_topi (fun x5_4 ex5_4 => ?_)
        have hf := hf x5_4 ex5_4
        refine lv_istore (lv' := [(5, .int x5_4), (0, .int x0), (1, .int x1), (2, .int x2), (3, .int x3), (4, .int x4)]) hx hb dX6_weightOfShut_15 hl (by decide) rfl (fun ls hl => ?_)
        refine lv_iload_n hx hb dX6_weightOfShut_17 rfl (lv_at hl 2 rfl) ?_
        refine lv_iload hx hb dX6_weightOfShut_18 (lv_at hl 0 rfl) ?_
        refine lv_iand hx hb dX6_weightOfShut_20 ?_
        refine lv_if_eq (tgt := 42) hx hb dX6_weightOfShut_21 (by decide) (fun c_5 => ?_) (fun c_5 => ?_)
        · have hf := hf.1 c_5
          exact k_42 x0 x1 x2 x3 x4 ls hf (lv_sub hl [1, 2, 3, 4, 5] rfl)
        · have hf := hf.2 c_5
          refine lv_iload_n hx hb dX6_weightOfShut_24 rfl (lv_at hl 4 rfl) ?_
          refine lv_iload_n hx hb dX6_weightOfShut_25 rfl (lv_at hl 1 rfl) ?_
          refine lv_iload hx hb dX6_weightOfShut_26 (lv_at hl 0 rfl) ?_
          refine lv_iand hx hb dX6_weightOfShut_28 ?_
          refine lv_if_eq (tgt := 36) hx hb dX6_weightOfShut_29 (by decide) (fun c_6 => ?_) (fun c_6 => ?_)
          · have hf := hf.1 c_6
            refine lv_bipush (v := (10 : Int32)) hx hb dX6_weightOfShut_36 (by decide) ?_
            refine lv_iload_n hx hb dX6_weightOfShut_38 rfl (lv_at hl 3 rfl) ?_
            refine lv_isub hx hb dX6_weightOfShut_39 ?_
            exact k_40 x0 x1 x2 x4 ((10 : Int32) - x2) x3 ls hf (lv_sub hl [1, 2, 3, 5] rfl)
          · have hf := hf.2 c_6
            refine lv_iload_n hx hb dX6_weightOfShut_32 rfl (lv_at hl 3 rfl) ?_
            refine lv_goto (tgt := 40) hx hb dX6_weightOfShut_33 (by decide) ?_
            exact k_40 x0 x1 x2 x4 x2 x3 ls hf (lv_sub hl [1, 2, 3, 5] rfl)
    exact main_5 n0_5 x0 x1 x2 x3 x4 ls hI0_5 hl
  refine lv_iconst (v := (1 : Int32)) hx hb dX6_weightOfShut_0 (by decide) ?_
  refine lv_istore_n (lv' := [(3, .int (1 : Int32)), (0, .int p0), (1, .int p1), (2, .int p2)]) hx hb dX6_weightOfShut_1 rfl hl (by decide) rfl (fun ls hl => ?_)
  refine lv_iconst (v := (0 : Int32)) hx hb dX6_weightOfShut_2 (by decide) ?_
  refine lv_istore (lv' := [(4, .int (0 : Int32)), (3, .int (1 : Int32)), (0, .int p0), (1, .int p1), (2, .int p2)]) hx hb dX6_weightOfShut_3 hl (by decide) rfl (fun ls hl => ?_)
  exact k_5 p0 p1 p2 (1 : Int32) (0 : Int32) ls hf (lv_sub hl [2, 3, 4, 1, 0] rfl)
def B_X6_passes_128 (G79 : (Int32 × Int32 × Int32 × Int32 × Int32 × Int32 × Int32 × Int32) → Prop) (Z : Nat → Nat → Nat) (Y : Nat → Nat → Nat) (S : Nat → CS) (a : AS) (x1 : Int32) (x2 : Int32) (x3 : Int32) (x4 : Int32) (x5 : Int32) (x6 : Int32) (x7 : Int32) (x8 : Int32) (Q : Int32 → Prop) : Prop := ∀ x8_1 : Int32, x8_1 = x8 + (1 : Int32) → G79 (x1, x2, x3, x4, x5, x6, x7, x8_1)
def LB_X6_passes_79 (G79 : (Int32 × Int32 × Int32 × Int32 × Int32 × Int32 × Int32 × Int32) → Prop) (Z : Nat → Nat → Nat) (Y : Nat → Nat → Nat) (S : Nat → CS) (a : AS) (x1 : Int32) (x2 : Int32) (x3 : Int32) (x4 : Int32) (x5 : Int32) (x6 : Int32) (x7 : Int32) (x8 : Int32) (Q : Int32 → Prop) : Prop := (((32 : Int32) ≤ x8 → wp_X6_partOfFraction x6 x7 x4 (fun r_3 => Q r_3)) ∧ (¬ (32 : Int32) ≤ x8 → ((¬ (x8 &&& (x5 ^^^ (-1 : Int32))) = 0 → B_X6_passes_128 G79 Z Y S a x1 x2 x3 x4 x5 x6 x7 x8 Q) ∧ ((x8 &&& (x5 ^^^ (-1 : Int32))) = 0 → wp_X5_openBut x8 (S 4) (fun r_5 => wp_X2_steps x1 x2 r_5 (fun r_6 => ((r_6 = (-9 : Int32) → B_X6_passes_128 G79 Z Y S a x1 x2 x3 x4 x5 x6 x7 x8 Q) ∧ (¬ r_6 = (-9 : Int32) → wp_X6_weightOfShut x8 x5 x3 (fun r_8 => ∀ x6_9 : Int32, x6_9 = (x6 + r_8) → B_X6_passes_128 G79 Z Y S a x1 x2 x3 x4 x5 x6_9 x7 x8 Q)))))))))
def B_X6_passes_79 (Z : Nat → Nat → Nat) (Y : Nat → Nat → Nat) (S : Nat → CS) (a : AS) (x1 : Int32) (x2 : Int32) (x3 : Int32) (x4 : Int32) (x5 : Int32) (x6 : Int32) (x7 : Int32) (x8 : Int32) (Q : Int32 → Prop) : Prop := LOOP (fun (G79 : (Int32 × Int32 × Int32 × Int32 × Int32 × Int32 × Int32 × Int32) → Prop) z => LB_X6_passes_79 G79 Z Y S a z.1 z.2.1 z.2.2.1 z.2.2.2.1 z.2.2.2.2.1 z.2.2.2.2.2.1 z.2.2.2.2.2.2.1 z.2.2.2.2.2.2.2 Q) (x1, x2, x3, x4, x5, x6, x7, x8)
def B_X6_passes_70 (G47 : (Int32 × Int32 × Int32 × Int32 × Int32 × Int32 × Int32 × Int32) → Prop) (Z : Nat → Nat → Nat) (Y : Nat → Nat → Nat) (S : Nat → CS) (a : AS) (x1 : Int32) (x2 : Int32) (x3 : Int32) (x4 : Int32) (x5 : Int32) (x6 : Int32) (x7 : Int32) (x8 : Int32) (Q : Int32 → Prop) : Prop := ∀ x8_10 : Int32, x8_10 = x8 + (1 : Int32) → G47 (x1, x2, x3, x4, x5, x6, x7, x8_10)
def LB_X6_passes_47 (G47 : (Int32 × Int32 × Int32 × Int32 × Int32 × Int32 × Int32 × Int32) → Prop) (Z : Nat → Nat → Nat) (Y : Nat → Nat → Nat) (S : Nat → CS) (a : AS) (x1 : Int32) (x2 : Int32) (x3 : Int32) (x4 : Int32) (x5 : Int32) (x6 : Int32) (x7 : Int32) (x8 : Int32) (Q : Int32 → Prop) : Prop := (((5 : Int32) ≤ x8 → B_X6_passes_79 Z Y S a x1 x2 x3 x4 x5 x6 x7 (0 : Int32) Q) ∧ (¬ (5 : Int32) ≤ x8 → (((x5 &&& ((1 : Int32) <<< (x8 &&& 31))) = 0 → B_X6_passes_70 G47 Z Y S a x1 x2 x3 x4 x5 x6 x7 x8 Q) ∧ (¬ (x5 &&& ((1 : Int32) <<< (x8 &&& 31))) = 0 → ∀ x7_13 : Int32, x7_13 = (x7 * (10 : Int32)) → B_X6_passes_70 G47 Z Y S a x1 x2 x3 x4 x5 x6 x7_13 x8 Q))))
def B_X6_passes_47 (Z : Nat → Nat → Nat) (Y : Nat → Nat → Nat) (S : Nat → CS) (a : AS) (x1 : Int32) (x2 : Int32) (x3 : Int32) (x4 : Int32) (x5 : Int32) (x6 : Int32) (x7 : Int32) (x8 : Int32) (Q : Int32 → Prop) : Prop := LOOP (fun (G47 : (Int32 × Int32 × Int32 × Int32 × Int32 × Int32 × Int32 × Int32) → Prop) z => LB_X6_passes_47 G47 Z Y S a z.1 z.2.1 z.2.2.1 z.2.2.2.1 z.2.2.2.2.1 z.2.2.2.2.2.1 z.2.2.2.2.2.2.1 z.2.2.2.2.2.2.2 Q) (x1, x2, x3, x4, x5, x6, x7, x8)
def wp_X6_passes (p0 : Int32) (p1 : Int32) (p2 : Int32) (p3 : Int32) (Z : Nat → Nat → Nat) (Y : Nat → Nat → Nat) (S : Nat → CS) (a : AS) (Q : Int32 → Prop) : Prop := wp_X2_hasCell p0 (fun r_14 => ((r_14 = 0 → Q (-1 : Int32)) ∧ (¬ r_14 = 0 → wp_X2_hasCell p1 (fun r_16 => ((¬ r_16 = 0 → ((p2 < 0 → Q (-2 : Int32)) ∧ (¬ p2 < 0 → ((p2 ≤ (10 : Int32) → wp_X5_holesLeft (S 4) (fun r_20 => B_X6_passes_47 Z Y S a p0 p1 p2 p3 r_20 (0 : Int32) (1 : Int32) (0 : Int32) Q)) ∧ (¬ p2 ≤ (10 : Int32) → Q (-2 : Int32)))))) ∧ (r_16 = 0 → Q (-1 : Int32)))))))
set_option maxHeartbeats 4000000 in
set_option maxRecDepth 100000 in
theorem c_X6_passes (l : Launch) (D : va_G) (cI cZ cW : ClassId) (Z : Nat → Nat → Nat) (Y : Nat → Nat → Nat) (p0 : Int32) (p1 : Int32) (p2 : Int32) (p3 : Int32) (S : Nat → CS) (a : AS) (Q : Int32 → Prop) (hf : wp_X6_passes p0 p1 p2 p3 Z Y S a Q) : Met l yX6_passes (wsA yX6_passes cX6_passes 9 (some .int)) ({ frames := 3, cells := 0, slots := 0, locals := 65 }) (PR D cI cZ cW [.ref (Z 0 0), .int p0, .int p1, .int p2, .int p3] (XW cI cZ cW Z Y (Z 1 0) (Z 2 0) S a)) (vp_Si Q) 0 0 (fun _ => False) := by
  refine Met.ofW (cc := cX6_passes) (maxL := 9) (ret := (some .int)) (by decide) rfl ?_
  intro p e s m args below meth c s₁ B hml hv
  obtain ⟨rfl, hP, hK⟩ := hv
  have hx := B.exec
  have hb := B.bytes
  have hr := B.returns
  have hts := atoms_spec (ws := (wsA yX6_passes cX6_passes 9 (some .int))) B.pre
  have ht : ∀ w ∈ lw_g, w.before _ s = true := fun w h => hts w (List.mem_cons_of_mem _ h)
  have hown : s.vm.findClass RX6 = some m.cls := findClass_of_methodNamed B.named
  have hlocks := B.notSynchronized
  have hl := lv_entry ([.ref (Z 0 0), .int p0, .int p1, .int p2, .int p3]) (n := 9) (Nat.le_of_ble_eq_true rfl)
  rw [lg_entry_eq]
  generalize (lg_sl ([.ref (Z 0 0), .int p0, .int p1, .int p2, .int p3]) ++ List.replicate (9 - (lg_sl ([.ref (Z 0 0), .int p0, .int p1, .int p2, .int p3])).length) Slot.unset).toArray = ls at hl ⊢
  have hl : lv_has ls 9 [(0, .ref (Z 0 0)), (1, .int p0), (2, .int p1), (3, .int p2), (4, .int p3)] := hl
  unfold wp_X6_passes at hf
  have k_79 : ∀ (x1 : Int32) (x2 : Int32) (x3 : Int32) (x4 : Int32) (x5 : Int32) (x6 : Int32) (x7 : Int32) (x8 : Int32) (ls : Array Slot), B_X6_passes_79 Z Y S a x1 x2 x3 x4 x5 x6 x7 x8 Q → lv_has ls 9 [(0, .ref (Z 0 0)), (1, .int x1), (2, .int x2), (3, .int x3), (4, .int x4), (5, .int x5), (6, .int x6), (7, .int x7), (8, .int x8)] → W p l e (headSpec (wsA yX6_passes cX6_passes 9 (some .int)) ({ frames := 3, cells := 0, slots := 0, locals := 65 })).room s m (#[.ref (Z 0 0), .int p0, .int p1, .int p2, .int p3] : Array Value) below meth c s.heap [] 0 0 (MQ below (vp_Si Q) (#[.ref (Z 0 0), .int p0, .int p1, .int p2, .int p3] : Array Value) s 0 0 (fun _ => False)) (F0 m 79 ls []) := by
    intro x1 x2 x3 x4 x5 x6 x7 x8 ls hf hl
    unfold B_X6_passes_79 at hf
    obtain ⟨I_79, ⟨n0_79, hI0_79⟩, hst_79⟩ := hf
    have main_79 : ∀ (n : Nat) (x1 : Int32) (x2 : Int32) (x3 : Int32) (x4 : Int32) (x5 : Int32) (x6 : Int32) (x7 : Int32) (x8 : Int32) (ls : Array Slot), I_79 n (x1, x2, x3, x4, x5, x6, x7, x8) → lv_has ls 9 [(0, .ref (Z 0 0)), (1, .int x1), (2, .int x2), (3, .int x3), (4, .int x4), (5, .int x5), (6, .int x6), (7, .int x7), (8, .int x8)] → W p l e (headSpec (wsA yX6_passes cX6_passes 9 (some .int)) ({ frames := 3, cells := 0, slots := 0, locals := 65 })).room s m (#[.ref (Z 0 0), .int p0, .int p1, .int p2, .int p3] : Array Value) below meth c s.heap [] 0 0 (MQ below (vp_Si Q) (#[.ref (Z 0 0), .int p0, .int p1, .int p2, .int p3] : Array Value) s 0 0 (fun _ => False)) (F0 m 79 ls []) := by
      intro n
      induction n using Nat.strongRecOn with
      | _ n_79 ih_79 =>
      intro x1 x2 x3 x4 x5 x6 x7 x8 ls hI hl
      have hf : LB_X6_passes_79 (fun z => ∃ k, k < n_79 ∧ I_79 k z) Z Y S a x1 x2 x3 x4 x5 x6 x7 x8 Q := hst_79 n_79 (x1, x2, x3, x4, x5, x6, x7, x8) hI
      have hG_79 : ∀ (x1 : Int32) (x2 : Int32) (x3 : Int32) (x4 : Int32) (x5 : Int32) (x6 : Int32) (x7 : Int32) (x8 : Int32) (ls : Array Slot), (∃ k, k < n_79 ∧ I_79 k (x1, x2, x3, x4, x5, x6, x7, x8)) → lv_has ls 9 [(0, .ref (Z 0 0)), (1, .int x1), (2, .int x2), (3, .int x3), (4, .int x4), (5, .int x5), (6, .int x6), (7, .int x7), (8, .int x8)] → W p l e (headSpec (wsA yX6_passes cX6_passes 9 (some .int)) ({ frames := 3, cells := 0, slots := 0, locals := 65 })).room s m (#[.ref (Z 0 0), .int p0, .int p1, .int p2, .int p3] : Array Value) below meth c s.heap [] 0 0 (MQ below (vp_Si Q) (#[.ref (Z 0 0), .int p0, .int p1, .int p2, .int p3] : Array Value) s 0 0 (fun _ => False)) (F0 m 79 ls []) := by
        rintro x1 x2 x3 x4 x5 x6 x7 x8 ls ⟨k, hk, hI⟩ hl
        exact ih_79 k hk x1 x2 x3 x4 x5 x6 x7 x8 ls hI hl
      unfold LB_X6_passes_79 at hf
      have k_128 : ∀ (x1 : Int32) (x2 : Int32) (x3 : Int32) (x4 : Int32) (x5 : Int32) (x6 : Int32) (x7 : Int32) (x8 : Int32) (ls : Array Slot), B_X6_passes_128 (fun z => ∃ k, k < n_79 ∧ I_79 k z) Z Y S a x1 x2 x3 x4 x5 x6 x7 x8 Q → lv_has ls 9 [(0, .ref (Z 0 0)), (1, .int x1), (2, .int x2), (3, .int x3), (4, .int x4), (5, .int x5), (6, .int x6), (7, .int x7), (8, .int x8)] → W p l e (headSpec (wsA yX6_passes cX6_passes 9 (some .int)) ({ frames := 3, cells := 0, slots := 0, locals := 65 })).room s m (#[.ref (Z 0 0), .int p0, .int p1, .int p2, .int p3] : Array Value) below meth c s.heap [] 0 0 (MQ below (vp_Si Q) (#[.ref (Z 0 0), .int p0, .int p1, .int p2, .int p3] : Array Value) s 0 0 (fun _ => False)) (F0 m 128 ls []) := by
        intro x1 x2 x3 x4 x5 x6 x7 x8 ls hf hl
        unfold B_X6_passes_128 at hf
        obtain ⟨x8_1, ex8_1⟩ : ∃ y : Int32, y = x8 + (1 : Int32) := ⟨_, rfl⟩
        have hf := hf x8_1 ex8_1
        refine lv_iinc (v := x8_1) (lv' := [(8, .int x8_1), (0, .ref (Z 0 0)), (1, .int x1), (2, .int x2), (3, .int x3), (4, .int x4), (5, .int x5), (6, .int x6), (7, .int x7)]) hx hb dX6_passes_128 hl (k := 8) rfl (by rw [ex8_1]; rfl) (by decide) rfl (fun ls hl => ?_)
        refine lv_goto (tgt := 79) hx hb dX6_passes_131 (by decide) ?_
        exact hG_79 x1 x2 x3 x4 x5 x6 x7 x8_1 ls hf (lv_sub hl [1, 2, 3, 4, 5, 6, 7, 8, 0] rfl)
      refine lv_iload hx hb dX6_passes_79 (lv_at hl 8 rfl) ?_
      refine lv_bipush (v := (32 : Int32)) hx hb dX6_passes_81 (by decide) ?_
      refine lv_icmp_ge (tgt := 134) hx hb dX6_passes_83 (by decide) (fun c_2 => ?_) (fun c_2 => ?_)
      · have hf := hf.1 c_2
        refine lv_iload hx hb dX6_passes_134 (lv_at hl 6 rfl) ?_
        refine lv_iload hx hb dX6_passes_136 (lv_at hl 7 rfl) ?_
        refine lv_iload hx hb dX6_passes_138 (lv_at hl 4 rfl) ?_
        have hPc : va_P D classes ([] : va_W) s.heap := fun k q h => by simp at h
        refine vp_callSi (W.runS (As := [.int x6, .int x7, .int x4]) (rest := []) ⟨hx, hb, hml, hown, hts⟩ (c_X6_partOfFraction l D cI cZ cW  x6 x7 x4 _ hf) ⟨callB_of 3 hts (gA tw_588) rfl rfl rfl (ht _ tw_1) (ht _ tw_586) hd_X6_partOfFraction ⟨Nat.le_of_ble_eq_true rfl, Nat.le_of_ble_eq_true rfl⟩, ht _ tw_587⟩ ⟨PR_blind, fun U hU hW => PR_mk hPc hK hU hW⟩ rfl rfl hl.1 rfl (lv_room (Nat.le_of_ble_eq_true rfl)) dX6_passes_140 ⟨Nat.zero_le _, Nat.zero_le _⟩) (fun r_3 hf => ?_)
        exact W.iret (v := r_3) hx hb hr (fun t ht hW => ⟨r_3, rfl, hf, ht⟩) (fun q h => absurd h List.not_mem_nil) dX6_passes_143
      · have hf := hf.2 c_2
        refine lv_iload hx hb dX6_passes_86 (lv_at hl 8 rfl) ?_
        refine lv_iload hx hb dX6_passes_88 (lv_at hl 5 rfl) ?_
        refine lv_iconst (v := (-1 : Int32)) hx hb dX6_passes_90 (by decide) ?_
        refine lv_ixor hx hb dX6_passes_91 ?_
        refine lv_iand hx hb dX6_passes_92 ?_
        refine lv_if_ne (tgt := 128) hx hb dX6_passes_93 (by decide) (fun c_4 => ?_) (fun c_4 => ?_)
        · have hf := hf.1 c_4
          exact k_128 x1 x2 x3 x4 x5 x6 x7 x8 ls hf (lv_sub hl [0, 1, 2, 3, 4, 5, 6, 7, 8] rfl)
        · have hf := hf.2 c_4
          refine lv_iload_n hx hb dX6_passes_96 rfl (lv_at hl 1 rfl) ?_
          refine lv_iload_n hx hb dX6_passes_97 rfl (lv_at hl 2 rfl) ?_
          refine lv_aload_n hx hb dX6_passes_98 rfl (lv_at hl 0 rfl) ?_
          refine va_get (D := D) (ci := 4) (v := .ref (Z 4 0)) (C := RX6) (T := TX6) (N := 12) hx hb ht inX6 hown hK hP 0 eX_0 rfl 5 (by decide) (ht _ tw_158) (fun _ h9 => h9) rfl dX6_passes_99 ?_
          refine lv_iload hx hb dX6_passes_102 (lv_at hl 8 rfl) ?_
          have hPc : va_P D classes (wW cI cZ (Z 4) (S 4)) s.heap := XP_4 hP
          refine vp_callSi (W.runV (As := [.int x8]) (rest := [.int x2, .int x1]) ⟨hx, hb, hml, hown, hts⟩ (c_X5_openBut l D cI cZ cW (Z 4) x8 (S 4) _ hf) ⟨callB_of 1 hts (gA tw_618) rfl rfl rfl (ht _ tw_4) (ht _ tw_615) hd_X5_openBut ⟨Nat.le_of_ble_eq_true rfl, Nat.le_of_ble_eq_true rfl⟩, ht _ tw_616, ht _ tw_617⟩ ⟨PR_blind, va_recv hK hP (ci := 3) (q0 := 21) rfl eX_21, fun U hU hW => PR_mk hPc hK hU hW⟩ rfl rfl hl.1 rfl (lv_room (Nat.le_of_ble_eq_true rfl)) dX6_passes_104 ⟨Nat.zero_le _, Nat.zero_le _⟩) (fun r_5 hf => ?_)
          have hPc : va_P D classes ([] : va_W) s.heap := fun k q h => by simp at h
          refine vp_callSi (W.runS (As := [.int x1, .int x2, .int r_5]) (rest := []) ⟨hx, hb, hml, hown, hts⟩ (c_X2_steps l D cI cZ cW  x1 x2 r_5 _ hf) ⟨callB_of 3 hts (gA tw_483) rfl rfl rfl (ht _ tw_9) (ht _ tw_481) hd_X2_steps ⟨Nat.le_of_ble_eq_true rfl, Nat.le_of_ble_eq_true rfl⟩, ht _ tw_482⟩ ⟨PR_blind, fun U hU hW => PR_mk hPc hK hU hW⟩ rfl rfl hl.1 rfl (lv_room (Nat.le_of_ble_eq_true rfl)) dX6_passes_107 ⟨Nat.zero_le _, Nat.zero_le _⟩) (fun r_6 hf => ?_)
          refine lv_bipush (v := (-9 : Int32)) hx hb dX6_passes_110 (by decide) ?_
          refine lv_icmp_eq (tgt := 128) hx hb dX6_passes_112 (by decide) (fun c_7 => ?_) (fun c_7 => ?_)
          · have hf := hf.1 c_7
            exact k_128 x1 x2 x3 x4 x5 x6 x7 x8 ls hf (lv_sub hl [0, 1, 2, 3, 4, 5, 6, 7, 8] rfl)
          · have hf := hf.2 c_7
            refine lv_iload hx hb dX6_passes_115 (lv_at hl 6 rfl) ?_
            refine lv_iload hx hb dX6_passes_117 (lv_at hl 8 rfl) ?_
            refine lv_iload hx hb dX6_passes_119 (lv_at hl 5 rfl) ?_
            refine lv_iload_n hx hb dX6_passes_121 rfl (lv_at hl 3 rfl) ?_
            have hPc : va_P D classes ([] : va_W) s.heap := fun k q h => by simp at h
            refine vp_callSi (W.runS (As := [.int x8, .int x5, .int x3]) (rest := [.int x6]) ⟨hx, hb, hml, hown, hts⟩ (c_X6_weightOfShut l D cI cZ cW  x8 x5 x3 _ hf) ⟨callB_of 3 hts (gA tw_621) rfl rfl rfl (ht _ tw_1) (ht _ tw_619) hd_X6_weightOfShut ⟨Nat.le_of_ble_eq_true rfl, Nat.le_of_ble_eq_true rfl⟩, ht _ tw_620⟩ ⟨PR_blind, fun U hU hW => PR_mk hPc hK hU hW⟩ rfl rfl hl.1 rfl (lv_room (Nat.le_of_ble_eq_true rfl)) dX6_passes_122 ⟨Nat.zero_le _, Nat.zero_le _⟩) (fun r_8 hf => ?_)
            refine lv_iadd hx hb dX6_passes_125 ?_
            refine lv_topi (fun x6_9 ex6_9 => ?_)
            have hf := hf x6_9 ex6_9
            refine lv_istore (lv' := [(6, .int x6_9), (0, .ref (Z 0 0)), (1, .int x1), (2, .int x2), (3, .int x3), (4, .int x4), (5, .int x5), (7, .int x7), (8, .int x8)]) hx hb dX6_passes_126 hl (by decide) rfl (fun ls hl => ?_)
            exact k_128 x1 x2 x3 x4 x5 x6_9 x7 x8 ls hf (lv_sub hl [1, 2, 3, 4, 5, 6, 0, 7, 8] rfl)
    exact main_79 n0_79 x1 x2 x3 x4 x5 x6 x7 x8 ls hI0_79 hl
  have k_47 : ∀ (x1 : Int32) (x2 : Int32) (x3 : Int32) (x4 : Int32) (x5 : Int32) (x6 : Int32) (x7 : Int32) (x8 : Int32) (ls : Array Slot), B_X6_passes_47 Z Y S a x1 x2 x3 x4 x5 x6 x7 x8 Q → lv_has ls 9 [(0, .ref (Z 0 0)), (1, .int x1), (2, .int x2), (3, .int x3), (4, .int x4), (5, .int x5), (6, .int x6), (7, .int x7), (8, .int x8)] → W p l e (headSpec (wsA yX6_passes cX6_passes 9 (some .int)) ({ frames := 3, cells := 0, slots := 0, locals := 65 })).room s m (#[.ref (Z 0 0), .int p0, .int p1, .int p2, .int p3] : Array Value) below meth c s.heap [] 0 0 (MQ below (vp_Si Q) (#[.ref (Z 0 0), .int p0, .int p1, .int p2, .int p3] : Array Value) s 0 0 (fun _ => False)) (F0 m 47 ls []) := by
    intro x1 x2 x3 x4 x5 x6 x7 x8 ls hf hl
    unfold B_X6_passes_47 at hf
    obtain ⟨I_47, ⟨n0_47, hI0_47⟩, hst_47⟩ := hf
    have main_47 : ∀ (n : Nat) (x1 : Int32) (x2 : Int32) (x3 : Int32) (x4 : Int32) (x5 : Int32) (x6 : Int32) (x7 : Int32) (x8 : Int32) (ls : Array Slot), I_47 n (x1, x2, x3, x4, x5, x6, x7, x8) → lv_has ls 9 [(0, .ref (Z 0 0)), (1, .int x1), (2, .int x2), (3, .int x3), (4, .int x4), (5, .int x5), (6, .int x6), (7, .int x7), (8, .int x8)] → W p l e (headSpec (wsA yX6_passes cX6_passes 9 (some .int)) ({ frames := 3, cells := 0, slots := 0, locals := 65 })).room s m (#[.ref (Z 0 0), .int p0, .int p1, .int p2, .int p3] : Array Value) below meth c s.heap [] 0 0 (MQ below (vp_Si Q) (#[.ref (Z 0 0), .int p0, .int p1, .int p2, .int p3] : Array Value) s 0 0 (fun _ => False)) (F0 m 47 ls []) := by
      intro n
      induction n using Nat.strongRecOn with
      | _ n_47 ih_47 =>
      intro x1 x2 x3 x4 x5 x6 x7 x8 ls hI hl
      have hf : LB_X6_passes_47 (fun z => ∃ k, k < n_47 ∧ I_47 k z) Z Y S a x1 x2 x3 x4 x5 x6 x7 x8 Q := hst_47 n_47 (x1, x2, x3, x4, x5, x6, x7, x8) hI
      have hG_47 : ∀ (x1 : Int32) (x2 : Int32) (x3 : Int32) (x4 : Int32) (x5 : Int32) (x6 : Int32) (x7 : Int32) (x8 : Int32) (ls : Array Slot), (∃ k, k < n_47 ∧ I_47 k (x1, x2, x3, x4, x5, x6, x7, x8)) → lv_has ls 9 [(0, .ref (Z 0 0)), (1, .int x1), (2, .int x2), (3, .int x3), (4, .int x4), (5, .int x5), (6, .int x6), (7, .int x7), (8, .int x8)] → W p l e (headSpec (wsA yX6_passes cX6_passes 9 (some .int)) ({ frames := 3, cells := 0, slots := 0, locals := 65 })).room s m (#[.ref (Z 0 0), .int p0, .int p1, .int p2, .int p3] : Array Value) below meth c s.heap [] 0 0 (MQ below (vp_Si Q) (#[.ref (Z 0 0), .int p0, .int p1, .int p2, .int p3] : Array Value) s 0 0 (fun _ => False)) (F0 m 47 ls []) := by
        rintro x1 x2 x3 x4 x5 x6 x7 x8 ls ⟨k, hk, hI⟩ hl
        exact ih_47 k hk x1 x2 x3 x4 x5 x6 x7 x8 ls hI hl
      unfold LB_X6_passes_47 at hf
      have k_70 : ∀ (x1 : Int32) (x2 : Int32) (x3 : Int32) (x4 : Int32) (x5 : Int32) (x6 : Int32) (x7 : Int32) (x8 : Int32) (ls : Array Slot), B_X6_passes_70 (fun z => ∃ k, k < n_47 ∧ I_47 k z) Z Y S a x1 x2 x3 x4 x5 x6 x7 x8 Q → lv_has ls 9 [(0, .ref (Z 0 0)), (1, .int x1), (2, .int x2), (3, .int x3), (4, .int x4), (5, .int x5), (6, .int x6), (7, .int x7), (8, .int x8)] → W p l e (headSpec (wsA yX6_passes cX6_passes 9 (some .int)) ({ frames := 3, cells := 0, slots := 0, locals := 65 })).room s m (#[.ref (Z 0 0), .int p0, .int p1, .int p2, .int p3] : Array Value) below meth c s.heap [] 0 0 (MQ below (vp_Si Q) (#[.ref (Z 0 0), .int p0, .int p1, .int p2, .int p3] : Array Value) s 0 0 (fun _ => False)) (F0 m 70 ls []) := by
        intro x1 x2 x3 x4 x5 x6 x7 x8 ls hf hl
        unfold B_X6_passes_70 at hf
        obtain ⟨x8_10, ex8_10⟩ : ∃ y : Int32, y = x8 + (1 : Int32) := ⟨_, rfl⟩
        have hf := hf x8_10 ex8_10
        refine lv_iinc (v := x8_10) (lv' := [(8, .int x8_10), (0, .ref (Z 0 0)), (1, .int x1), (2, .int x2), (3, .int x3), (4, .int x4), (5, .int x5), (6, .int x6), (7, .int x7)]) hx hb dX6_passes_70 hl (k := 8) rfl (by rw [ex8_10]; rfl) (by decide) rfl (fun ls hl => ?_)
        refine lv_goto (tgt := 47) hx hb dX6_passes_73 (by decide) ?_
        exact hG_47 x1 x2 x3 x4 x5 x6 x7 x8_10 ls hf (lv_sub hl [1, 2, 3, 4, 5, 6, 7, 8, 0] rfl)
      refine lv_iload hx hb dX6_passes_47 (lv_at hl 8 rfl) ?_
      refine lv_iconst (v := (5 : Int32)) hx hb dX6_passes_49 (by decide) ?_
      refine lv_icmp_ge (tgt := 76) hx hb dX6_passes_50 (by decide) (fun c_11 => ?_) (fun c_11 => ?_)
      · have hf := hf.1 c_11
        refine lv_iconst (v := (0 : Int32)) hx hb dX6_passes_76 (by decide) ?_
        refine lv_istore (lv' := [(8, .int (0 : Int32)), (0, .ref (Z 0 0)), (1, .int x1), (2, .int x2), (3, .int x3), (4, .int x4), (5, .int x5), (6, .int x6), (7, .int x7)]) hx hb dX6_passes_77 hl (by decide) rfl (fun ls hl => ?_)
        exact k_79 x1 x2 x3 x4 x5 x6 x7 (0 : Int32) ls hf (lv_sub hl [1, 2, 3, 4, 5, 6, 7, 8, 0] rfl)
      · have hf := hf.2 c_11
        refine lv_iload hx hb dX6_passes_53 (lv_at hl 5 rfl) ?_
        refine lv_iconst (v := (1 : Int32)) hx hb dX6_passes_55 (by decide) ?_
        refine lv_iload hx hb dX6_passes_56 (lv_at hl 8 rfl) ?_
        refine lv_ishl hx hb dX6_passes_58 ?_
        refine lv_iand hx hb dX6_passes_59 ?_
        refine lv_if_eq (tgt := 70) hx hb dX6_passes_60 (by decide) (fun c_12 => ?_) (fun c_12 => ?_)
        · have hf := hf.1 c_12
          exact k_70 x1 x2 x3 x4 x5 x6 x7 x8 ls hf (lv_sub hl [0, 1, 2, 3, 4, 5, 6, 7, 8] rfl)
        · have hf := hf.2 c_12
          refine lv_iload hx hb dX6_passes_63 (lv_at hl 7 rfl) ?_
          refine lv_bipush (v := (10 : Int32)) hx hb dX6_passes_65 (by decide) ?_
          refine lv_imul hx hb dX6_passes_67 ?_
          refine lv_topi (fun x7_13 ex7_13 => ?_)
          have hf := hf x7_13 ex7_13
          refine lv_istore (lv' := [(7, .int x7_13), (0, .ref (Z 0 0)), (1, .int x1), (2, .int x2), (3, .int x3), (4, .int x4), (5, .int x5), (6, .int x6), (8, .int x8)]) hx hb dX6_passes_68 hl (by decide) rfl (fun ls hl => ?_)
          exact k_70 x1 x2 x3 x4 x5 x6 x7_13 x8 ls hf (lv_sub hl [1, 2, 3, 4, 5, 6, 7, 0, 8] rfl)
    exact main_47 n0_47 x1 x2 x3 x4 x5 x6 x7 x8 ls hI0_47 hl
  refine lv_iload_n hx hb dX6_passes_0 rfl (lv_at hl 1 rfl) ?_
  have hPc : va_P D classes ([] : va_W) s.heap := fun k q h => by simp at h
  refine vp_callSi (W.runS (As := [.int p0]) (rest := []) ⟨hx, hb, hml, hown, hts⟩ (c_X2_hasCell l D cI cZ cW  p0 _ hf) ⟨callB_of 1 hts (gA tw_245) rfl rfl rfl (ht _ tw_9) (ht _ tw_328) hd_X2_hasCell ⟨Nat.le_of_ble_eq_true rfl, Nat.le_of_ble_eq_true rfl⟩, ht _ tw_244⟩ ⟨PR_blind, fun U hU hW => PR_mk hPc hK hU hW⟩ rfl rfl hl.1 rfl (lv_room (Nat.le_of_ble_eq_true rfl)) dX6_passes_1 ⟨Nat.zero_le _, Nat.zero_le _⟩) (fun r_14 hf => ?_)
  refine lv_if_eq (tgt := 14) hx hb dX6_passes_4 (by decide) (fun c_15 => ?_) (fun c_15 => ?_)
  · have hf := hf.1 c_15
    refine lv_iconst (v := (-1 : Int32)) hx hb dX6_passes_14 (by decide) ?_
    exact W.iret (v := (-1 : Int32)) hx hb hr (fun t ht hW => ⟨(-1 : Int32), rfl, hf, ht⟩) (fun q h => absurd h List.not_mem_nil) dX6_passes_15
  · have hf := hf.2 c_15
    refine lv_iload_n hx hb dX6_passes_7 rfl (lv_at hl 2 rfl) ?_
    have hPc : va_P D classes ([] : va_W) s.heap := fun k q h => by simp at h
    refine vp_callSi (W.runS (As := [.int p1]) (rest := []) ⟨hx, hb, hml, hown, hts⟩ (c_X2_hasCell l D cI cZ cW  p1 _ hf) ⟨callB_of 1 hts (gA tw_245) rfl rfl rfl (ht _ tw_9) (ht _ tw_328) hd_X2_hasCell ⟨Nat.le_of_ble_eq_true rfl, Nat.le_of_ble_eq_true rfl⟩, ht _ tw_244⟩ ⟨PR_blind, fun U hU hW => PR_mk hPc hK hU hW⟩ rfl rfl hl.1 rfl (lv_room (Nat.le_of_ble_eq_true rfl)) dX6_passes_8 ⟨Nat.zero_le _, Nat.zero_le _⟩) (fun r_16 hf => ?_)
    refine lv_if_ne (tgt := 16) hx hb dX6_passes_11 (by decide) (fun c_17 => ?_) (fun c_17 => ?_)
    · have hf := hf.1 c_17
      refine lv_iload_n hx hb dX6_passes_16 rfl (lv_at hl 3 rfl) ?_
      refine lv_if_lt (tgt := 26) hx hb dX6_passes_17 (by decide) (fun c_18 => ?_) (fun c_18 => ?_)
      · have hf := hf.1 c_18
        refine lv_bipush (v := (-2 : Int32)) hx hb dX6_passes_26 (by decide) ?_
        exact W.iret (v := (-2 : Int32)) hx hb hr (fun t ht hW => ⟨(-2 : Int32), rfl, hf, ht⟩) (fun q h => absurd h List.not_mem_nil) dX6_passes_28
      · have hf := hf.2 c_18
        refine lv_iload_n hx hb dX6_passes_20 rfl (lv_at hl 3 rfl) ?_
        refine lv_bipush (v := (10 : Int32)) hx hb dX6_passes_21 (by decide) ?_
        refine lv_icmp_le (tgt := 29) hx hb dX6_passes_23 (by decide) (fun c_19 => ?_) (fun c_19 => ?_)
        · have hf := hf.1 c_19
          refine lv_aload_n hx hb dX6_passes_29 rfl (lv_at hl 0 rfl) ?_
          refine va_get (D := D) (ci := 4) (v := .ref (Z 4 0)) (C := RX6) (T := TX6) (N := 12) hx hb ht inX6 hown hK hP 0 eX_0 rfl 5 (by decide) (ht _ tw_158) (fun _ h9 => h9) rfl dX6_passes_30 ?_
          have hPc : va_P D classes (wW cI cZ (Z 4) (S 4)) s.heap := XP_4 hP
          refine vp_callSi (W.runV (As := []) (rest := []) ⟨hx, hb, hml, hown, hts⟩ (c_X5_holesLeft l D cI cZ cW (Z 4) (S 4) _ hf) ⟨callB_of 0 hts (gA tw_510) rfl rfl rfl (ht _ tw_4) (ht _ tw_507) hd_X5_holesLeft ⟨Nat.le_of_ble_eq_true rfl, Nat.le_of_ble_eq_true rfl⟩, ht _ tw_508, ht _ tw_509⟩ ⟨PR_blind, va_recv hK hP (ci := 3) (q0 := 21) rfl eX_21, fun U hU hW => PR_mk hPc hK hU hW⟩ rfl rfl hl.1 rfl (lv_room (Nat.le_of_ble_eq_true rfl)) dX6_passes_33 ⟨Nat.zero_le _, Nat.zero_le _⟩) (fun r_20 hf => ?_)
          refine lv_istore (lv' := [(5, .int r_20), (0, .ref (Z 0 0)), (1, .int p0), (2, .int p1), (3, .int p2), (4, .int p3)]) hx hb dX6_passes_36 hl (by decide) rfl (fun ls hl => ?_)
          refine lv_iconst (v := (0 : Int32)) hx hb dX6_passes_38 (by decide) ?_
          refine lv_istore (lv' := [(6, .int (0 : Int32)), (5, .int r_20), (0, .ref (Z 0 0)), (1, .int p0), (2, .int p1), (3, .int p2), (4, .int p3)]) hx hb dX6_passes_39 hl (by decide) rfl (fun ls hl => ?_)
          refine lv_iconst (v := (1 : Int32)) hx hb dX6_passes_41 (by decide) ?_
          refine lv_istore (lv' := [(7, .int (1 : Int32)), (6, .int (0 : Int32)), (5, .int r_20), (0, .ref (Z 0 0)), (1, .int p0), (2, .int p1), (3, .int p2), (4, .int p3)]) hx hb dX6_passes_42 hl (by decide) rfl (fun ls hl => ?_)
          refine lv_iconst (v := (0 : Int32)) hx hb dX6_passes_44 (by decide) ?_
          refine lv_istore (lv' := [(8, .int (0 : Int32)), (7, .int (1 : Int32)), (6, .int (0 : Int32)), (5, .int r_20), (0, .ref (Z 0 0)), (1, .int p0), (2, .int p1), (3, .int p2), (4, .int p3)]) hx hb dX6_passes_45 hl (by decide) rfl (fun ls hl => ?_)
          exact k_47 p0 p1 p2 p3 r_20 (0 : Int32) (1 : Int32) (0 : Int32) ls hf (lv_sub hl [4, 5, 6, 7, 8, 3, 2, 1, 0] rfl)
        · have hf := hf.2 c_19
          refine lv_bipush (v := (-2 : Int32)) hx hb dX6_passes_26 (by decide) ?_
          exact W.iret (v := (-2 : Int32)) hx hb hr (fun t ht hW => ⟨(-2 : Int32), rfl, hf, ht⟩) (fun q h => absurd h List.not_mem_nil) dX6_passes_28
    · have hf := hf.2 c_17
      refine lv_iconst (v := (-1 : Int32)) hx hb dX6_passes_14 (by decide) ?_
      exact W.iret (v := (-1 : Int32)) hx hb hr (fun t ht hW => ⟨(-1 : Int32), rfl, hf, ht⟩) (fun q h => absurd h List.not_mem_nil) dX6_passes_15
def wp_X6_seed (p0 : Int64) (Z : Nat → Nat → Nat) (Y : Nat → Nat → Nat) (S : Nat → CS) (a : AS) (Q : Int64 → (Nat → CS) → AS → Prop) : Prop := ∀ x3_1 : Int64, x3_1 = (S 0).2.2 → ∀ S_2 : Nat → CS, S_2 = va_up S 0 (sL (S 0) p0) → Q x3_1 S_2 a
set_option maxHeartbeats 4000000 in
set_option maxRecDepth 100000 in
theorem c_X6_seed (l : Launch) (D : va_G) (cI cZ cW : ClassId) (Z : Nat → Nat → Nat) (Y : Nat → Nat → Nat) (sz : Nat) (p0 : Int64) (S : Nat → CS) (a : AS) (Q : Int64 → (Nat → CS) → AS → Prop) (hf : wp_X6_seed p0 Z Y S a Q) : Met l yX6_seed (wsA yX6_seed cX6_seed 5 (some .long)) ({ frames := 0, cells := 0, slots := 0, locals := 0 }) (PW D cI cZ cW [.ref (Z 0 0), .long p0] (XW cI cZ cW Z Y (Z 1 0) (Z 2 0) S a) sz) (va_Ql (fun (r : Int64) (u : (Nat → CS) × AS) => Q r u.1 u.2) (fun u t => va_P D classes (XW cI cZ cW Z Y (Z 1 0) (Z 2 0) u.1 u.2) t.heap) (va_A (XW cI cZ cW Z Y (Z 1 0) (Z 2 0) S a) sz)) 0 0 (va_A (XW cI cZ cW Z Y (Z 1 0) (Z 2 0) S a) sz) := by
  refine Met.ofW (cc := cX6_seed) (maxL := 5) (ret := (some .long)) (by decide) rfl ?_
  intro p e s m args below meth c s₁ B hml hv
  obtain ⟨rfl, hsz, hP, hK, hD0⟩ := hv
  have hx := B.exec
  have hb := B.bytes
  have hr := B.returns
  have hts := atoms_spec (ws := (wsA yX6_seed cX6_seed 5 (some .long))) B.pre
  have ht : ∀ w ∈ lw_g, w.before _ s = true := fun w h => hts w (List.mem_cons_of_mem _ h)
  have hown : s.vm.findClass RX6 = some m.cls := findClass_of_methodNamed B.named
  have hlocks := B.notSynchronized
  subst hsz
  have hD := hD0.self (sz := s.heap.size)
  generalize hAe : va_A (XW cI cZ cW Z Y (Z 1 0) (Z 2 0) S a) s.heap.size = A at hD ⊢
  have hA : ∀ q : Nat, s.heap.size ≤ q → A q := fun q h => by rw [← hAe]; exact Or.inr h
  have hS : va_S A s.heap s.heap [] := va_S.rf
  have hDk : ∀ (x : Nat → CS) (y : AS), va_D A (XW cI cZ cW Z Y (Z 1 0) (Z 2 0) x y) := fun x y => D_X hD
  have hl := lv_entry ([.ref (Z 0 0), .long p0]) (n := 5) (Nat.le_of_ble_eq_true rfl)
  rw [lg_entry_eq]
  generalize (lg_sl ([.ref (Z 0 0), .long p0]) ++ List.replicate (5 - (lg_sl ([.ref (Z 0 0), .long p0])).length) Slot.unset).toArray = ls at hl ⊢
  have hl : lv_has ls 5 [(0, .ref (Z 0 0)), (1, .long p0)] := hl
  unfold wp_X6_seed at hf
  have start : ∀ (H : Heap) (locs : List Loc), va_P D classes (XW cI cZ cW Z Y (Z 1 0) (Z 2 0) S a) H → va_D A (XW cI cZ cW Z Y (Z 1 0) (Z 2 0) S a) → va_S A s.heap H locs → W p l e (headSpec (wsA yX6_seed cX6_seed 5 (some .long)) ({ frames := 0, cells := 0, slots := 0, locals := 0 })).room s m (#[.ref (Z 0 0), .long p0] : Array Value) below meth c H locs 0 0 (MQ below (va_Ql (fun (r : Int64) (u : (Nat → CS) × AS) => Q r u.1 u.2) (fun u t => va_P D classes (XW cI cZ cW Z Y (Z 1 0) (Z 2 0) u.1 u.2) t.heap) A) (#[.ref (Z 0 0), .long p0] : Array Value) s 0 0 A) (F0 m 0 ls []) := by
    intro H locs hP hD hS
    refine lv_aload_n hx hb dX6_seed_0 rfl (lv_at hl 0 rfl) ?_
    refine va_get (D := D) (ci := 4) (v := .long (S 0).2.2) (C := RX6) (T := TX6) (N := 12) hx hb ht inX6 hown hK hP 0 eX_0 rfl 11 (by decide) (ht _ tw_164) (fun _ h9 => h9) rfl dX6_seed_1 ?_
    refine lv_topl (fun x3_1 ex3_1 => ?_)
    have hf := hf x3_1 ex3_1
    refine lv_lstore_n (lv' := [(3, .long x3_1), (0, .ref (Z 0 0)), (1, .long p0)]) hx hb dX6_seed_4 rfl hl (by decide) rfl (fun ls hl => ?_)
    refine lv_aload_n hx hb dX6_seed_5 rfl (lv_at hl 1 rfl) ?_
    refine lv_lload_n hx hb dX6_seed_6 rfl (lv_at hl 2 rfl) ?_
    refine va_put (D := D) (ci := 4) (v := .long p0) (ty := .long) (C := RX6) (T := TX6) (N := 12) hx hb ht inX6 tyX6 tyX6_ok nmX6 hown hK hP hD hS 0 eX_0 rfl 11 (by decide) (ht _ tw_164) (fun _ h9 => h9) rfl pf_J rfl rfl (Nat.le_of_ble_eq_true rfl) dX6_seed_7 (fun H locs hP hD hS => ?_)
    obtain ⟨S_2, eS_2⟩ : ∃ y : Nat → CS, y = va_up S 0 (sL (S 0) p0) := ⟨_, rfl⟩
    have hf := hf S_2 eS_2
    have hP : va_P D classes (XW cI cZ cW Z Y (Z 1 0) (Z 2 0) S_2 a) H := by rw [eS_2]; exact PX_0_L11 hP
    have hD := hDk S_2 a
    refine lv_lload_n hx hb dX6_seed_10 rfl (lv_at hl 0 rfl) ?_
    exact W.lret (v := x3_1) hx hb hr (fun t ht hW => ⟨⟨x3_1, (S_2, a), rfl, hf, P_heap ht hP⟩, hS.F ht⟩) hS.2.2 dX6_seed_11
  exact start s.heap [] hP hD hS
def B_X6_years_112 (G27 : (Int32 × Int32 × (Nat → CS) × AS) → Prop) (Z : Nat → Nat → Nat) (Y : Nat → Nat → Nat) (x1 : Int32) (x2 : Int32) (S : Nat → CS) (a : AS) (Q : Int32 → (Nat → CS) → AS → Prop) : Prop := ∀ x2_1 : Int32, x2_1 = x2 + (1 : Int32) → G27 (x1, x2_1, S, a)
def LB_X6_years_27 (G27 : (Int32 × Int32 × (Nat → CS) × AS) → Prop) (Z : Nat → Nat → Nat) (Y : Nat → Nat → Nat) (x1 : Int32) (x2 : Int32) (S : Nat → CS) (a : AS) (Q : Int32 → (Nat → CS) → AS → Prop) : Prop := ((x1 ≤ x2 → wp_X5_holeCells (S 5) (fun r_3 => wp_J6_bitCount_0f7a4 r_3 (fun r_4 => Q r_4 S a))) ∧ (¬ x1 ≤ x2 → ∀ S_5 : Nat → CS, S_5 = va_up S 0 (sL (S 0) (((S 0).2.2 * (6364136223846793005 : Int64)) + (1442695040888963407 : Int64))) → ∀ x3_6 : Int32, x3_6 = ((((S_5 0).2.2).toUInt64 >>> ((33 : Int32).toInt64.toUInt64 &&& Int64.toUInt64 63)).toInt64 - (((S_5 0).2.2).toUInt64 >>> ((33 : Int32).toInt64.toUInt64 &&& Int64.toUInt64 63)).toInt64 / (28 : Int64) * (28 : Int64)).toInt32 → ((x3_6 < (20 : Int32) → wp_X5_refusalToEat (0 : Int32) x3_6 (S_5 5) (S_5 1) (fun r_8 => ((¬ r_8 = 0 → B_X6_years_112 G27 Z Y x1 x2 S_5 a Q) ∧ (r_8 = 0 → wp_X5_eatCell (0 : Int32) x3_6 (S_5 5) (S_5 1) (fun r_10 s_11 s_12 => ∀ S_13 : Nat → CS, S_13 = va_up (va_up S_5 5 s_11) 1 s_12 → B_X6_years_112 G27 Z Y x1 x2 S_13 a Q))))) ∧ (¬ x3_6 < (20 : Int32) → wp_X5_passDay (S_5 5) (S_5 1) (fun r_14 s_15 s_16 => ∀ S_17 : Nat → CS, S_17 = va_up (va_up S_5 5 s_15) 1 s_16 → B_X6_years_112 G27 Z Y x1 x2 S_17 a Q)))))
def B_X6_years_27 (Z : Nat → Nat → Nat) (Y : Nat → Nat → Nat) (x1 : Int32) (x2 : Int32) (S : Nat → CS) (a : AS) (Q : Int32 → (Nat → CS) → AS → Prop) : Prop := LOOP (fun (G27 : (Int32 × Int32 × (Nat → CS) × AS) → Prop) z => LB_X6_years_27 G27 Z Y z.1 z.2.1 z.2.2.1 z.2.2.2 Q) (x1, x2, S, a)
def wp_X6_years (p0 : Int32) (Z : Nat → Nat → Nat) (Y : Nat → Nat → Nat) (S : Nat → CS) (a : AS) (Q : Int32 → (Nat → CS) → AS → Prop) : Prop := ((p0 < (1 : Int32) → Q (-2 : Int32) S a) ∧ (¬ p0 < (1 : Int32) → ((p0 ≤ (30 : Int32) → wp_X5_copyFrom (S 5) (S 4) (fun s_20 s_21 => ∀ S_22 : Nat → CS, S_22 = va_up (va_up S 5 s_20) 4 s_21 → B_X6_years_27 Z Y p0 (0 : Int32) S_22 a Q)) ∧ (¬ p0 ≤ (30 : Int32) → Q (-2 : Int32) S a))))
set_option maxHeartbeats 4000000 in
set_option maxRecDepth 100000 in
theorem c_X6_years (l : Launch) (D : va_G) (cI cZ cW : ClassId) (Z : Nat → Nat → Nat) (Y : Nat → Nat → Nat) (sz : Nat) (p0 : Int32) (S : Nat → CS) (a : AS) (Q : Int32 → (Nat → CS) → AS → Prop) (hf : wp_X6_years p0 Z Y S a Q) : Met l yX6_years (wsA yX6_years cX6_years 4 (some .int)) ({ frames := 5, cells := 0, slots := 0, locals := 115 }) (PW D cI cZ cW [.ref (Z 0 0), .int p0] (XW cI cZ cW Z Y (Z 1 0) (Z 2 0) S a) sz) (va_Qi (fun (r : Int32) (u : (Nat → CS) × AS) => Q r u.1 u.2) (fun u t => va_P D classes (XW cI cZ cW Z Y (Z 1 0) (Z 2 0) u.1 u.2) t.heap) (va_A (XW cI cZ cW Z Y (Z 1 0) (Z 2 0) S a) sz)) 0 0 (va_A (XW cI cZ cW Z Y (Z 1 0) (Z 2 0) S a) sz) := by
  refine Met.ofW (cc := cX6_years) (maxL := 4) (ret := (some .int)) (by decide) rfl ?_
  intro p e s m args below meth c s₁ B hml hv
  obtain ⟨rfl, hsz, hP, hK, hD0⟩ := hv
  have hx := B.exec
  have hb := B.bytes
  have hr := B.returns
  have hts := atoms_spec (ws := (wsA yX6_years cX6_years 4 (some .int))) B.pre
  have ht : ∀ w ∈ lw_g, w.before _ s = true := fun w h => hts w (List.mem_cons_of_mem _ h)
  have hown : s.vm.findClass RX6 = some m.cls := findClass_of_methodNamed B.named
  have hlocks := B.notSynchronized
  subst hsz
  have hD := hD0.self (sz := s.heap.size)
  generalize hAe : va_A (XW cI cZ cW Z Y (Z 1 0) (Z 2 0) S a) s.heap.size = A at hD ⊢
  have hA : ∀ q : Nat, s.heap.size ≤ q → A q := fun q h => by rw [← hAe]; exact Or.inr h
  have hS : va_S A s.heap s.heap [] := va_S.rf
  have hDk : ∀ (x : Nat → CS) (y : AS), va_D A (XW cI cZ cW Z Y (Z 1 0) (Z 2 0) x y) := fun x y => D_X hD
  have hl := lv_entry ([.ref (Z 0 0), .int p0]) (n := 4) (Nat.le_of_ble_eq_true rfl)
  rw [lg_entry_eq]
  generalize (lg_sl ([.ref (Z 0 0), .int p0]) ++ List.replicate (4 - (lg_sl ([.ref (Z 0 0), .int p0])).length) Slot.unset).toArray = ls at hl ⊢
  have hl : lv_has ls 4 [(0, .ref (Z 0 0)), (1, .int p0)] := hl
  unfold wp_X6_years at hf
  have k_27 : ∀ (x1 : Int32) (x2 : Int32) (S : Nat → CS) (a : AS) (H : Heap) (locs : List Loc) (ls : Array Slot), B_X6_years_27 Z Y x1 x2 S a Q → va_P D classes (XW cI cZ cW Z Y (Z 1 0) (Z 2 0) S a) H → va_D A (XW cI cZ cW Z Y (Z 1 0) (Z 2 0) S a) → va_S A s.heap H locs → lv_has ls 4 [(0, .ref (Z 0 0)), (1, .int x1), (2, .int x2)] → W p l e (headSpec (wsA yX6_years cX6_years 4 (some .int)) ({ frames := 5, cells := 0, slots := 0, locals := 115 })).room s m (#[.ref (Z 0 0), .int p0] : Array Value) below meth c H locs 0 0 (MQ below (va_Qi (fun (r : Int32) (u : (Nat → CS) × AS) => Q r u.1 u.2) (fun u t => va_P D classes (XW cI cZ cW Z Y (Z 1 0) (Z 2 0) u.1 u.2) t.heap) A) (#[.ref (Z 0 0), .int p0] : Array Value) s 0 0 A) (F0 m 27 ls []) := by
    intro x1 x2 S a H locs ls hf hP hD hS hl
    unfold B_X6_years_27 at hf
    obtain ⟨I_27, ⟨n0_27, hI0_27⟩, hst_27⟩ := hf
    have main_27 : ∀ (n : Nat) (x1 : Int32) (x2 : Int32) (S : Nat → CS) (a : AS) (H : Heap) (locs : List Loc) (ls : Array Slot), I_27 n (x1, x2, S, a) → va_P D classes (XW cI cZ cW Z Y (Z 1 0) (Z 2 0) S a) H → va_D A (XW cI cZ cW Z Y (Z 1 0) (Z 2 0) S a) → va_S A s.heap H locs → lv_has ls 4 [(0, .ref (Z 0 0)), (1, .int x1), (2, .int x2)] → W p l e (headSpec (wsA yX6_years cX6_years 4 (some .int)) ({ frames := 5, cells := 0, slots := 0, locals := 115 })).room s m (#[.ref (Z 0 0), .int p0] : Array Value) below meth c H locs 0 0 (MQ below (va_Qi (fun (r : Int32) (u : (Nat → CS) × AS) => Q r u.1 u.2) (fun u t => va_P D classes (XW cI cZ cW Z Y (Z 1 0) (Z 2 0) u.1 u.2) t.heap) A) (#[.ref (Z 0 0), .int p0] : Array Value) s 0 0 A) (F0 m 27 ls []) := by
      intro n
      induction n using Nat.strongRecOn with
      | _ n_27 ih_27 =>
      intro x1 x2 S a H locs ls hI hP hD hS hl
      have hf : LB_X6_years_27 (fun z => ∃ k, k < n_27 ∧ I_27 k z) Z Y x1 x2 S a Q := hst_27 n_27 (x1, x2, S, a) hI
      have hG_27 : ∀ (x1 : Int32) (x2 : Int32) (S : Nat → CS) (a : AS) (H : Heap) (locs : List Loc) (ls : Array Slot), (∃ k, k < n_27 ∧ I_27 k (x1, x2, S, a)) → va_P D classes (XW cI cZ cW Z Y (Z 1 0) (Z 2 0) S a) H → va_D A (XW cI cZ cW Z Y (Z 1 0) (Z 2 0) S a) → va_S A s.heap H locs → lv_has ls 4 [(0, .ref (Z 0 0)), (1, .int x1), (2, .int x2)] → W p l e (headSpec (wsA yX6_years cX6_years 4 (some .int)) ({ frames := 5, cells := 0, slots := 0, locals := 115 })).room s m (#[.ref (Z 0 0), .int p0] : Array Value) below meth c H locs 0 0 (MQ below (va_Qi (fun (r : Int32) (u : (Nat → CS) × AS) => Q r u.1 u.2) (fun u t => va_P D classes (XW cI cZ cW Z Y (Z 1 0) (Z 2 0) u.1 u.2) t.heap) A) (#[.ref (Z 0 0), .int p0] : Array Value) s 0 0 A) (F0 m 27 ls []) := by
        rintro x1 x2 S a H locs ls ⟨k, hk, hI⟩ hP hD hS hl
        exact ih_27 k hk x1 x2 S a H locs ls hI hP hD hS hl
      unfold LB_X6_years_27 at hf
      have k_112 : ∀ (x1 : Int32) (x2 : Int32) (S : Nat → CS) (a : AS) (H : Heap) (locs : List Loc) (ls : Array Slot), B_X6_years_112 (fun z => ∃ k, k < n_27 ∧ I_27 k z) Z Y x1 x2 S a Q → va_P D classes (XW cI cZ cW Z Y (Z 1 0) (Z 2 0) S a) H → va_D A (XW cI cZ cW Z Y (Z 1 0) (Z 2 0) S a) → va_S A s.heap H locs → lv_has ls 4 [(0, .ref (Z 0 0)), (1, .int x1), (2, .int x2)] → W p l e (headSpec (wsA yX6_years cX6_years 4 (some .int)) ({ frames := 5, cells := 0, slots := 0, locals := 115 })).room s m (#[.ref (Z 0 0), .int p0] : Array Value) below meth c H locs 0 0 (MQ below (va_Qi (fun (r : Int32) (u : (Nat → CS) × AS) => Q r u.1 u.2) (fun u t => va_P D classes (XW cI cZ cW Z Y (Z 1 0) (Z 2 0) u.1 u.2) t.heap) A) (#[.ref (Z 0 0), .int p0] : Array Value) s 0 0 A) (F0 m 112 ls []) := by
        intro x1 x2 S a H locs ls hf hP hD hS hl
        unfold B_X6_years_112 at hf
        obtain ⟨x2_1, ex2_1⟩ : ∃ y : Int32, y = x2 + (1 : Int32) := ⟨_, rfl⟩
        have hf := hf x2_1 ex2_1
        refine lv_iinc (v := x2_1) (lv' := [(2, .int x2_1), (0, .ref (Z 0 0)), (1, .int x1)]) hx hb dX6_years_112 hl (k := 2) rfl (by rw [ex2_1]; rfl) (by decide) rfl (fun ls hl => ?_)
        refine lv_goto (tgt := 27) hx hb dX6_years_115 (by decide) ?_
        exact hG_27 x1 x2_1 S a H locs ls hf hP hD hS (lv_sub hl [1, 2, 0] rfl)
      refine lv_iload_n hx hb dX6_years_27 rfl (lv_at hl 2 rfl) ?_
      refine lv_iload_n hx hb dX6_years_28 rfl (lv_at hl 1 rfl) ?_
      refine lv_icmp_ge (tgt := 118) hx hb dX6_years_29 (by decide) (fun c_2 => ?_) (fun c_2 => ?_)
      · have hf := hf.1 c_2
        refine lv_aload_n hx hb dX6_years_118 rfl (lv_at hl 0 rfl) ?_
        refine va_get (D := D) (ci := 4) (v := .ref (Z 5 0)) (C := RX6) (T := TX6) (N := 12) hx hb ht inX6 hown hK hP 0 eX_0 rfl 6 (by decide) (ht _ tw_159) (fun _ h9 => h9) rfl dX6_years_119 ?_
        have hPc : va_P D classes (wW cI cZ (Z 5) (S 5)) H := XP_5 hP
        refine vp_callSi (W.runV (As := []) (rest := []) ⟨hx, hb, hml, hown, hts⟩ (c_X5_holeCells l D cI cZ cW (Z 5) (S 5) _ hf) ⟨callB_of 0 hts (gA tw_301) rfl rfl rfl (ht _ tw_4) (ht _ tw_562) hd_X5_holeCells ⟨Nat.le_of_ble_eq_true rfl, Nat.le_of_ble_eq_true rfl⟩, ht _ tw_299, ht _ tw_300⟩ ⟨PR_blind, va_recv hK hP (ci := 3) (q0 := 26) rfl eX_26, fun U hU hW => PR_mk hPc hK hU hW⟩ rfl rfl hl.1 rfl (lv_room (Nat.le_of_ble_eq_true rfl)) dX6_years_122 ⟨Nat.zero_le _, Nat.zero_le _⟩) (fun r_3 hf => ?_)
        have hPc : va_P D classes ([] : va_W) H := fun k q h => by simp at h
        refine vp_callSi (W.runS (As := [.int r_3]) (rest := []) ⟨hx, hb, hml, hown, hts⟩ (c_J6_bitCount_0f7a4 l D cI cZ cW  r_3 _ hf) ⟨callB_of 1 hts (gA tw_305) rfl rfl rfl (ht _ tw_10) (ht _ tw_303) hd_J6_bitCount_0f7a4 ⟨Nat.le_of_ble_eq_true rfl, Nat.le_of_ble_eq_true rfl⟩, ht _ tw_304⟩ ⟨PR_blind, fun U hU hW => PR_mk hPc hK hU hW⟩ rfl rfl hl.1 rfl (lv_room (Nat.le_of_ble_eq_true rfl)) dX6_years_125 ⟨Nat.zero_le _, Nat.zero_le _⟩) (fun r_4 hf => ?_)
        exact W.iret (v := r_4) hx hb hr (fun t ht hW => ⟨⟨r_4, (S, a), rfl, hf, P_heap ht hP⟩, hS.F ht⟩) hS.2.2 dX6_years_128
      · have hf := hf.2 c_2
        refine lv_aload_n hx hb dX6_years_32 rfl (lv_at hl 0 rfl) ?_
        refine lv_aload_n hx hb dX6_years_33 rfl (lv_at hl 0 rfl) ?_
        refine va_get (D := D) (ci := 4) (v := .long (S 0).2.2) (C := RX6) (T := TX6) (N := 12) hx hb ht inX6 hown hK hP 0 eX_0 rfl 11 (by decide) (ht _ tw_164) (fun _ h9 => h9) rfl dX6_years_34 ?_
        refine lv_ldc2 (v := (6364136223846793005 : Int64)) hx hb hown (ht _ tw_630) dX6_years_37 ?_
        refine lv_lmul hx hb dX6_years_40 ?_
        refine lv_ldc2 (v := (1442695040888963407 : Int64)) hx hb hown (ht _ tw_631) dX6_years_41 ?_
        refine lv_ladd hx hb dX6_years_44 ?_
        refine va_put (D := D) (ci := 4) (v := .long (((S 0).2.2 * (6364136223846793005 : Int64)) + (1442695040888963407 : Int64))) (ty := .long) (C := RX6) (T := TX6) (N := 12) hx hb ht inX6 tyX6 tyX6_ok nmX6 hown hK hP hD hS 0 eX_0 rfl 11 (by decide) (ht _ tw_164) (fun _ h9 => h9) rfl pf_J rfl rfl (Nat.le_of_ble_eq_true rfl) dX6_years_45 (fun H locs hP hD hS => ?_)
        obtain ⟨S_5, eS_5⟩ : ∃ y : Nat → CS, y = va_up S 0 (sL (S 0) (((S 0).2.2 * (6364136223846793005 : Int64)) + (1442695040888963407 : Int64))) := ⟨_, rfl⟩
        have hf := hf S_5 eS_5
        have hP : va_P D classes (XW cI cZ cW Z Y (Z 1 0) (Z 2 0) S_5 a) H := by rw [eS_5]; exact PX_0_L11 hP
        have hD := hDk S_5 a
        refine lv_aload_n hx hb dX6_years_48 rfl (lv_at hl 0 rfl) ?_
        refine va_get (D := D) (ci := 4) (v := .long (S_5 0).2.2) (C := RX6) (T := TX6) (N := 12) hx hb ht inX6 hown hK hP 0 eX_0 rfl 11 (by decide) (ht _ tw_164) (fun _ h9 => h9) rfl dX6_years_49 ?_
        refine lv_bipush (v := (33 : Int32)) hx hb dX6_years_52 (by decide) ?_
        refine lv_lushr (v := (((S_5 0).2.2).toUInt64 >>> ((33 : Int32).toInt64.toUInt64 &&& Int64.toUInt64 63)).toInt64) hx hb dX6_years_54 rfl ?_
        refine lv_ldc2 (v := (28 : Int64)) hx hb hown (ht _ tw_632) dX6_years_55 ?_
        refine lv_lrem hx hb dX6_years_58 (by decide) ?_
        refine lv_l2i (v := ((((S_5 0).2.2).toUInt64 >>> ((33 : Int32).toInt64.toUInt64 &&& Int64.toUInt64 63)).toInt64 - (((S_5 0).2.2).toUInt64 >>> ((33 : Int32).toInt64.toUInt64 &&& Int64.toUInt64 63)).toInt64 / (28 : Int64) * (28 : Int64)).toInt32) hx hb dX6_years_59 rfl ?_
        refine lv_topi (fun x3_6 ex3_6 => ?_)
        have hf := hf x3_6 ex3_6
        refine lv_istore_n (lv' := [(3, .int x3_6), (0, .ref (Z 0 0)), (1, .int x1), (2, .int x2)]) hx hb dX6_years_60 rfl hl (by decide) rfl (fun ls hl => ?_)
        refine lv_iload_n hx hb dX6_years_61 rfl (lv_at hl 0 rfl) ?_
        refine lv_bipush (v := (20 : Int32)) hx hb dX6_years_62 (by decide) ?_
        refine lv_icmp_lt (tgt := 82) hx hb dX6_years_64 (by decide) (fun c_7 => ?_) (fun c_7 => ?_)
        · have hf := hf.1 c_7
          refine lv_aload_n hx hb dX6_years_82 rfl (lv_at hl 1 rfl) ?_
          refine va_get (D := D) (ci := 4) (v := .ref (Z 5 0)) (C := RX6) (T := TX6) (N := 12) hx hb ht inX6 hown hK hP 0 eX_0 rfl 6 (by decide) (ht _ tw_159) (fun _ h9 => h9) rfl dX6_years_83 ?_
          refine lv_aload_n hx hb dX6_years_86 rfl (lv_at hl 1 rfl) ?_
          refine va_get (D := D) (ci := 4) (v := .ref (Z 1 0)) (C := RX6) (T := TX6) (N := 12) hx hb ht inX6 hown hK hP 0 eX_0 rfl 2 (by decide) (ht _ tw_155) (fun _ h9 => h9) rfl dX6_years_87 ?_
          refine lv_iconst (v := (0 : Int32)) hx hb dX6_years_90 (by decide) ?_
          refine lv_iload_n hx hb dX6_years_91 rfl (lv_at hl 0 rfl) ?_
          have hPc : va_P D classes (wW cI cZ (Z 5) (S_5 5) ++ wD cI cZ (Z 1) (S_5 1)) H := XP_5_1 hP
          refine vp_callSi (W.runV (As := [.ref (Z 1 0), .int (0 : Int32), .int x3_6]) (rest := []) ⟨hx, hb, hml, hown, hts⟩ (c_X5_refusalToEat l D cI cZ cW (Z 5) (Z 1) (0 : Int32) x3_6 (S_5 5) (S_5 1) _ hf) ⟨callB_of 3 hts (gA tw_428) rfl rfl rfl (ht _ tw_4) (ht _ tw_425) hd_X5_refusalToEat ⟨Nat.le_of_ble_eq_true rfl, Nat.le_of_ble_eq_true rfl⟩, ht _ tw_426, ht _ tw_427⟩ ⟨PR_blind, va_recv hK hP (ci := 3) (q0 := 26) rfl eX_26, fun U hU hW => PR_mk hPc hK hU hW⟩ rfl rfl hl.1 rfl (lv_room (Nat.le_of_ble_eq_true rfl)) dX6_years_92 ⟨Nat.zero_le _, Nat.zero_le _⟩) (fun r_8 hf => ?_)
          refine lv_if_ne (tgt := 112) hx hb dX6_years_95 (by decide) (fun c_9 => ?_) (fun c_9 => ?_)
          · have hf := hf.1 c_9
            exact k_112 x1 x2 S_5 a H locs ls hf hP hD hS (lv_sub hl [1, 2, 3] rfl)
          · have hf := hf.2 c_9
            refine lv_aload_n hx hb dX6_years_98 rfl (lv_at hl 1 rfl) ?_
            refine va_get (D := D) (ci := 4) (v := .ref (Z 5 0)) (C := RX6) (T := TX6) (N := 12) hx hb ht inX6 hown hK hP 0 eX_0 rfl 6 (by decide) (ht _ tw_159) (fun _ h9 => h9) rfl dX6_years_99 ?_
            refine lv_aload_n hx hb dX6_years_102 rfl (lv_at hl 1 rfl) ?_
            refine va_get (D := D) (ci := 4) (v := .ref (Z 1 0)) (C := RX6) (T := TX6) (N := 12) hx hb ht inX6 hown hK hP 0 eX_0 rfl 2 (by decide) (ht _ tw_155) (fun _ h9 => h9) rfl dX6_years_103 ?_
            refine lv_iconst (v := (0 : Int32)) hx hb dX6_years_106 (by decide) ?_
            refine lv_iload_n hx hb dX6_years_107 rfl (lv_at hl 0 rfl) ?_
            have hPc : va_P D classes (wW cI cZ (Z 5) (S_5 5) ++ wD cI cZ (Z 1) (S_5 1)) H := XP_5_1 hP
            have hDc : va_D A (wW cI cZ (Z 5) (S_5 5) ++ wD cI cZ (Z 1) (S_5 1)) := XD_5_1 hD
            have hFc := va_freeX hDc hS hA
            refine va_calli (va_runV (As := [.ref (Z 1 0), .int (0 : Int32), .int x3_6]) (rest := []) ⟨hx, hb, hml, hown, hts⟩ (c_X5_eatCell l D cI cZ cW (Z 5) (Z 1) H.size (0 : Int32) x3_6 (S_5 5) (S_5 1) _ hf) ⟨callB_of 3 hts (gA tw_433) rfl rfl rfl (ht _ tw_4) (ht _ tw_430) hd_X5_eatCell ⟨Nat.le_of_ble_eq_true rfl, Nat.le_of_ble_eq_true rfl⟩, ht _ tw_431, ht _ tw_432⟩ ⟨PW_blind, va_recv hK hP (ci := 3) (q0 := 26) rfl eX_26, fun U hU hW => PW_mk hPc hDc hK hU hW⟩ rfl rfl hl.1 rfl (lv_room (Nat.le_of_ble_eq_true rfl)) dX6_years_108 ⟨Nat.zero_le _, Nat.zero_le _⟩) hS (fun q _ h => hFc q h) hFc (fun r_10 u t H1 locs ht1 hvm hf hB hz1 hk1 hS => ?_)
            obtain ⟨s_11, s_12⟩ := u
            dsimp only at hf hB
            rw [ht1] at hB
            have hP := XJ_5_1 hP hD hk1 hB
            generalize H1 = H at hP hS ⊢
            obtain ⟨S_13, eS_13⟩ : ∃ y : Nat → CS, y = va_up (va_up S_5 5 s_11) 1 s_12 := ⟨_, rfl⟩
            have hf := hf S_13 eS_13
            have hP : va_P D classes (XW cI cZ cW Z Y (Z 1 0) (Z 2 0) S_13 a) H := by rw [eS_13]; exact hP
            have hD := hDk S_13 a
            refine lv_pop hx hb dX6_years_111 rfl ?_
            exact k_112 x1 x2 S_13 a H locs ls hf hP hD hS (lv_sub hl [1, 2, 3] rfl)
        · have hf := hf.2 c_7
          refine lv_aload_n hx hb dX6_years_67 rfl (lv_at hl 1 rfl) ?_
          refine va_get (D := D) (ci := 4) (v := .ref (Z 5 0)) (C := RX6) (T := TX6) (N := 12) hx hb ht inX6 hown hK hP 0 eX_0 rfl 6 (by decide) (ht _ tw_159) (fun _ h9 => h9) rfl dX6_years_68 ?_
          refine lv_aload_n hx hb dX6_years_71 rfl (lv_at hl 1 rfl) ?_
          refine va_get (D := D) (ci := 4) (v := .ref (Z 1 0)) (C := RX6) (T := TX6) (N := 12) hx hb ht inX6 hown hK hP 0 eX_0 rfl 2 (by decide) (ht _ tw_155) (fun _ h9 => h9) rfl dX6_years_72 ?_
          have hPc : va_P D classes (wW cI cZ (Z 5) (S_5 5) ++ wD cI cZ (Z 1) (S_5 1)) H := XP_5_1 hP
          have hDc : va_D A (wW cI cZ (Z 5) (S_5 5) ++ wD cI cZ (Z 1) (S_5 1)) := XD_5_1 hD
          have hFc := va_freeX hDc hS hA
          refine va_calli (va_runV (As := [.ref (Z 1 0)]) (rest := []) ⟨hx, hb, hml, hown, hts⟩ (c_X5_passDay l D cI cZ cW (Z 5) (Z 1) H.size (S_5 5) (S_5 1) _ hf) ⟨callB_of 1 hts (gA tw_369) rfl rfl rfl (ht _ tw_4) (ht _ tw_366) hd_X5_passDay ⟨Nat.le_of_ble_eq_true rfl, Nat.le_of_ble_eq_true rfl⟩, ht _ tw_367, ht _ tw_368⟩ ⟨PW_blind, va_recv hK hP (ci := 3) (q0 := 26) rfl eX_26, fun U hU hW => PW_mk hPc hDc hK hU hW⟩ rfl rfl hl.1 rfl (lv_room (Nat.le_of_ble_eq_true rfl)) dX6_years_75 ⟨Nat.zero_le _, Nat.zero_le _⟩) hS (fun q _ h => hFc q h) hFc (fun r_14 u t H1 locs ht1 hvm hf hB hz1 hk1 hS => ?_)
          obtain ⟨s_15, s_16⟩ := u
          dsimp only at hf hB
          rw [ht1] at hB
          have hP := XJ_5_1 hP hD hk1 hB
          generalize H1 = H at hP hS ⊢
          obtain ⟨S_17, eS_17⟩ : ∃ y : Nat → CS, y = va_up (va_up S_5 5 s_15) 1 s_16 := ⟨_, rfl⟩
          have hf := hf S_17 eS_17
          have hP : va_P D classes (XW cI cZ cW Z Y (Z 1 0) (Z 2 0) S_17 a) H := by rw [eS_17]; exact hP
          have hD := hDk S_17 a
          refine lv_pop hx hb dX6_years_78 rfl ?_
          refine lv_goto (tgt := 112) hx hb dX6_years_79 (by decide) ?_
          exact k_112 x1 x2 S_17 a H locs ls hf hP hD hS (lv_sub hl [1, 2, 3] rfl)
    exact main_27 n0_27 x1 x2 S a H locs ls hI0_27 hP hD hS hl
  have start : ∀ (H : Heap) (locs : List Loc), va_P D classes (XW cI cZ cW Z Y (Z 1 0) (Z 2 0) S a) H → va_D A (XW cI cZ cW Z Y (Z 1 0) (Z 2 0) S a) → va_S A s.heap H locs → W p l e (headSpec (wsA yX6_years cX6_years 4 (some .int)) ({ frames := 5, cells := 0, slots := 0, locals := 115 })).room s m (#[.ref (Z 0 0), .int p0] : Array Value) below meth c H locs 0 0 (MQ below (va_Qi (fun (r : Int32) (u : (Nat → CS) × AS) => Q r u.1 u.2) (fun u t => va_P D classes (XW cI cZ cW Z Y (Z 1 0) (Z 2 0) u.1 u.2) t.heap) A) (#[.ref (Z 0 0), .int p0] : Array Value) s 0 0 A) (F0 m 0 ls []) := by
    intro H locs hP hD hS
    refine lv_iload_n hx hb dX6_years_0 rfl (lv_at hl 1 rfl) ?_
    refine lv_iconst (v := (1 : Int32)) hx hb dX6_years_1 (by decide) ?_
    refine lv_icmp_lt (tgt := 11) hx hb dX6_years_2 (by decide) (fun c_18 => ?_) (fun c_18 => ?_)
    · have hf := hf.1 c_18
      refine lv_bipush (v := (-2 : Int32)) hx hb dX6_years_11 (by decide) ?_
      exact W.iret (v := (-2 : Int32)) hx hb hr (fun t ht hW => ⟨⟨(-2 : Int32), (S, a), rfl, hf, P_heap ht hP⟩, hS.F ht⟩) hS.2.2 dX6_years_13
    · have hf := hf.2 c_18
      refine lv_iload_n hx hb dX6_years_5 rfl (lv_at hl 1 rfl) ?_
      refine lv_bipush (v := (30 : Int32)) hx hb dX6_years_6 (by decide) ?_
      refine lv_icmp_le (tgt := 14) hx hb dX6_years_8 (by decide) (fun c_19 => ?_) (fun c_19 => ?_)
      · have hf := hf.1 c_19
        refine lv_aload_n hx hb dX6_years_14 rfl (lv_at hl 0 rfl) ?_
        refine va_get (D := D) (ci := 4) (v := .ref (Z 5 0)) (C := RX6) (T := TX6) (N := 12) hx hb ht inX6 hown hK hP 0 eX_0 rfl 6 (by decide) (ht _ tw_159) (fun _ h9 => h9) rfl dX6_years_15 ?_
        refine lv_aload_n hx hb dX6_years_18 rfl (lv_at hl 0 rfl) ?_
        refine va_get (D := D) (ci := 4) (v := .ref (Z 4 0)) (C := RX6) (T := TX6) (N := 12) hx hb ht inX6 hown hK hP 0 eX_0 rfl 5 (by decide) (ht _ tw_158) (fun _ h9 => h9) rfl dX6_years_19 ?_
        have hPc : va_P D classes (wW cI cZ (Z 5) (S 5) ++ wW cI cZ (Z 4) (S 4)) H := XP_5_4 hP
        have hDc : va_D A (wW cI cZ (Z 5) (S 5) ++ wW cI cZ (Z 4) (S 4)) := XD_5_4 hD
        have hFc := va_freeX hDc hS hA
        refine va_callv (va_runV (As := [.ref (Z 4 0)]) (rest := []) ⟨hx, hb, hml, hown, hts⟩ (c_X5_copyFrom l D cI cZ cW (Z 5) (Z 4) H.size (S 5) (S 4) _ hf) ⟨callB_of 1 hts (gA tw_362) rfl rfl rfl (ht _ tw_4) (ht _ tw_501) hd_X5_copyFrom ⟨Nat.le_of_ble_eq_true rfl, Nat.le_of_ble_eq_true rfl⟩, ht _ tw_360, ht _ tw_361⟩ ⟨PW_blind, va_recv hK hP (ci := 3) (q0 := 26) rfl eX_26, fun U hU hW => PW_mk hPc hDc hK hU hW⟩ rfl rfl hl.1 rfl (lv_room (Nat.le_of_ble_eq_true rfl)) dX6_years_22 ⟨Nat.zero_le _, Nat.zero_le _⟩) hS (fun q _ h => hFc q h) hFc (fun u t H1 locs ht1 hvm hf hB hz1 hk1 hS => ?_)
        obtain ⟨s_20, s_21⟩ := u
        dsimp only at hf hB
        rw [ht1] at hB
        have hP := XJ_5_4 hP hD hk1 hB
        generalize H1 = H at hP hS ⊢
        obtain ⟨S_22, eS_22⟩ : ∃ y : Nat → CS, y = va_up (va_up S 5 s_20) 4 s_21 := ⟨_, rfl⟩
        have hf := hf S_22 eS_22
        have hP : va_P D classes (XW cI cZ cW Z Y (Z 1 0) (Z 2 0) S_22 a) H := by rw [eS_22]; exact hP
        have hD := hDk S_22 a
        refine lv_iconst (v := (0 : Int32)) hx hb dX6_years_25 (by decide) ?_
        refine lv_istore_n (lv' := [(2, .int (0 : Int32)), (0, .ref (Z 0 0)), (1, .int p0)]) hx hb dX6_years_26 rfl hl (by decide) rfl (fun ls hl => ?_)
        exact k_27 p0 (0 : Int32) S_22 a H locs ls hf hP hD hS (lv_sub hl [1, 2, 0] rfl)
      · have hf := hf.2 c_19
        refine lv_bipush (v := (-2 : Int32)) hx hb dX6_years_11 (by decide) ?_
        exact W.iret (v := (-2 : Int32)) hx hb hr (fun t ht hW => ⟨⟨(-2 : Int32), (S, a), rfl, hf, P_heap ht hP⟩, hS.F ht⟩) hS.2.2 dX6_years_13
  exact start s.heap [] hP hD hS
def B_X6_slotAt_22 (Z : Nat → Nat → Nat) (Y : Nat → Nat → Nat) (S : Nat → CS) (a : AS) (Q : Option Nat → Prop) : Prop := Q none
def wp_X6_slotAt (p0 : Int32) (Z : Nat → Nat → Nat) (Y : Nat → Nat → Nat) (S : Nat → CS) (a : AS) (Q : Option Nat → Prop) : Prop := ((p0 < 0 → B_X6_slotAt_22 Z Y S a  Q) ∧ (¬ p0 < 0 → (((2 : Int32) ≤ p0 → B_X6_slotAt_22 Z Y S a  Q) ∧ (¬ (2 : Int32) ≤ p0 → vp_in p0 2 ∧ ∃ k_4 : Nat, slF Z p0.toNatClampNeg = some (Z k_4 0) ∧ Q (some (Z k_4 0))))))
set_option maxHeartbeats 4000000 in
set_option maxRecDepth 100000 in
theorem c_X6_slotAt (l : Launch) (D : va_G) (cI cZ cW : ClassId) (Z : Nat → Nat → Nat) (Y : Nat → Nat → Nat) (p0 : Int32) (S : Nat → CS) (a : AS) (Q : Option Nat → Prop) (hf : wp_X6_slotAt p0 Z Y S a Q) : Met l yX6_slotAt (wsA yX6_slotAt cX6_slotAt 2 (some (.object "LetHoles$Wheel"))) ({ frames := 0, cells := 0, slots := 0, locals := 0 }) (PR D cI cZ cW [.ref (Z 0 0), .int p0] (XW cI cZ cW Z Y (Z 1 0) (Z 2 0) S a)) (va_Sq Q) 0 0 (fun _ => False) := by
  refine Met.ofW (cc := cX6_slotAt) (maxL := 2) (ret := (some (.object "LetHoles$Wheel"))) (by decide) rfl ?_
  intro p e s m args below meth c s₁ B hml hv
  obtain ⟨rfl, hP, hK⟩ := hv
  have hx := B.exec
  have hb := B.bytes
  have hr := B.returns
  have hts := atoms_spec (ws := (wsA yX6_slotAt cX6_slotAt 2 (some (.object "LetHoles$Wheel")))) B.pre
  have ht : ∀ w ∈ lw_g, w.before _ s = true := fun w h => hts w (List.mem_cons_of_mem _ h)
  have hown : s.vm.findClass RX6 = some m.cls := findClass_of_methodNamed B.named
  have hlocks := B.notSynchronized
  have hl := lv_entry ([.ref (Z 0 0), .int p0]) (n := 2) (Nat.le_of_ble_eq_true rfl)
  rw [lg_entry_eq]
  generalize (lg_sl ([.ref (Z 0 0), .int p0]) ++ List.replicate (2 - (lg_sl ([.ref (Z 0 0), .int p0])).length) Slot.unset).toArray = ls at hl ⊢
  have hl : lv_has ls 2 [(0, .ref (Z 0 0)), (1, .int p0)] := hl
  unfold wp_X6_slotAt at hf
  have k_22 : ∀  (ls : Array Slot), B_X6_slotAt_22 Z Y S a  Q → lv_has ls 2 [] → W p l e (headSpec (wsA yX6_slotAt cX6_slotAt 2 (some (.object "LetHoles$Wheel"))) ({ frames := 0, cells := 0, slots := 0, locals := 0 })).room s m (#[.ref (Z 0 0), .int p0] : Array Value) below meth c s.heap [] 0 0 (MQ below (va_Sq Q) (#[.ref (Z 0 0), .int p0] : Array Value) s 0 0 (fun _ => False)) (F0 m 22 ls []) := by
    intro  ls hf hl
    unfold B_X6_slotAt_22 at hf
    refine lv_null hx hb dX6_slotAt_22 ?_
    exact W.aret (v := .null) hx hb hr (Or.inl ⟨_, rfl⟩) (Or.inl rfl) (fun t ht hW => ⟨none, rfl, hf, ht⟩) (fun q h => absurd h List.not_mem_nil) dX6_slotAt_23
  refine lv_iload_n hx hb dX6_slotAt_0 rfl (lv_at hl 1 rfl) ?_
  refine lv_if_lt (tgt := 22) hx hb dX6_slotAt_1 (by decide) (fun c_1 => ?_) (fun c_1 => ?_)
  · have hf := hf.1 c_1
    exact k_22  ls hf (lv_sub hl [] rfl)
  · have hf := hf.2 c_1
    refine lv_iload_n hx hb dX6_slotAt_4 rfl (lv_at hl 1 rfl) ?_
    refine lv_aload_n hx hb dX6_slotAt_5 rfl (lv_at hl 0 rfl) ?_
    refine va_get (D := D) (ci := 4) (v := .ref (Z 0 2)) (C := RX6) (T := TX6) (N := 12) hx hb ht inX6 hown hK hP 0 eX_0 rfl 8 (by decide) (ht _ tw_161) (fun _ h9 => h9) rfl dX6_slotAt_6 ?_
    refine va_alen (v := (2 : Int32)) hx hb hK hP 2 2 rfl rfl rfl dX6_slotAt_9 ?_
    refine lv_icmp_ge (tgt := 22) hx hb dX6_slotAt_10 (by decide) (fun c_2 => ?_) (fun c_2 => ?_)
    · have hf := hf.1 c_2
      exact k_22  ls hf (lv_sub hl [] rfl)
    · have hf := hf.2 c_2
      refine lv_aload_n hx hb dX6_slotAt_13 rfl (lv_at hl 0 rfl) ?_
      refine va_get (D := D) (ci := 4) (v := .ref (Z 0 2)) (C := RX6) (T := TX6) (N := 12) hx hb ht inX6 hown hK hP 0 eX_0 rfl 8 (by decide) (ht _ tw_161) (fun _ h9 => h9) rfl dX6_slotAt_14 ?_
      refine lv_iload_n hx hb dX6_slotAt_17 rfl (lv_at hl 1 rfl) ?_
      obtain ⟨hi_3, k_4, hk_4, hf⟩ := hf
      refine va_aldq hx hb hK hP 2 2 eX_2 rfl hi_3 dX6_slotAt_18 ?_
      rw [hk_4]
      refine W.eq (g2 := F0 m 19 ls [.ref (Z k_4 0)]) rfl ?_
      refine lv_goto (tgt := 23) hx hb dX6_slotAt_19 (by decide) ?_
      exact W.aret (v := (.ref (Z k_4 0))) hx hb hr (Or.inl ⟨_, rfl⟩) (Or.inr ⟨_, rfl⟩) (fun t ht hW => ⟨(some (Z k_4 0)), rfl, hf, ht⟩) (fun q h => absurd h List.not_mem_nil) dX6_slotAt_23
def wp_X6_keep (p0 : Int32) (Z : Nat → Nat → Nat) (Y : Nat → Nat → Nat) (S : Nat → CS) (a : AS) (Q : Int32 → (Nat → CS) → AS → Prop) : Prop := wp_X6_slotAt p0 Z Y S a (fun r_1 => (r_1 = none ∧ Q (-1 : Int32) S a) ∨ (∃ k_2 : Nat, r_1 = some (Z k_2 0) ∧ (k_2 = 7 ∨ k_2 = 8) ∧ wp_X5_copyFrom (S k_2) (S 4) (fun s_4 s_5 => ∀ S_6 : Nat → CS, S_6 = va_up (va_up S k_2 s_4) 4 s_5 → ∀ S_7 : Nat → CS, S_7 = va_up S_6 0 (sI (S_6 0) 9 (((S_6 0).1 9) ||| ((1 : Int32) <<< (p0 &&& 31)))) → Q ((S_7 4).1 5) S_7 a)))
set_option maxHeartbeats 4000000 in
set_option maxRecDepth 100000 in
theorem c_X6_keep (l : Launch) (D : va_G) (cI cZ cW : ClassId) (Z : Nat → Nat → Nat) (Y : Nat → Nat → Nat) (sz : Nat) (p0 : Int32) (S : Nat → CS) (a : AS) (Q : Int32 → (Nat → CS) → AS → Prop) (hf : wp_X6_keep p0 Z Y S a Q) : Met l yX6_keep (wsA yX6_keep cX6_keep 3 (some .int)) ({ frames := 2, cells := 0, slots := 0, locals := 61 }) (PW D cI cZ cW [.ref (Z 0 0), .int p0] (XW cI cZ cW Z Y (Z 1 0) (Z 2 0) S a) sz) (va_Qi (fun (r : Int32) (u : (Nat → CS) × AS) => Q r u.1 u.2) (fun u t => va_P D classes (XW cI cZ cW Z Y (Z 1 0) (Z 2 0) u.1 u.2) t.heap) (va_A (XW cI cZ cW Z Y (Z 1 0) (Z 2 0) S a) sz)) 0 0 (va_A (XW cI cZ cW Z Y (Z 1 0) (Z 2 0) S a) sz) := by
  refine Met.ofW (cc := cX6_keep) (maxL := 3) (ret := (some .int)) (by decide) rfl ?_
  intro p e s m args below meth c s₁ B hml hv
  obtain ⟨rfl, hsz, hP, hK, hD0⟩ := hv
  have hx := B.exec
  have hb := B.bytes
  have hr := B.returns
  have hts := atoms_spec (ws := (wsA yX6_keep cX6_keep 3 (some .int))) B.pre
  have ht : ∀ w ∈ lw_g, w.before _ s = true := fun w h => hts w (List.mem_cons_of_mem _ h)
  have hown : s.vm.findClass RX6 = some m.cls := findClass_of_methodNamed B.named
  have hlocks := B.notSynchronized
  subst hsz
  have hD := hD0.self (sz := s.heap.size)
  generalize hAe : va_A (XW cI cZ cW Z Y (Z 1 0) (Z 2 0) S a) s.heap.size = A at hD ⊢
  have hA : ∀ q : Nat, s.heap.size ≤ q → A q := fun q h => by rw [← hAe]; exact Or.inr h
  have hS : va_S A s.heap s.heap [] := va_S.rf
  have hDk : ∀ (x : Nat → CS) (y : AS), va_D A (XW cI cZ cW Z Y (Z 1 0) (Z 2 0) x y) := fun x y => D_X hD
  have hl := lv_entry ([.ref (Z 0 0), .int p0]) (n := 3) (Nat.le_of_ble_eq_true rfl)
  rw [lg_entry_eq]
  generalize (lg_sl ([.ref (Z 0 0), .int p0]) ++ List.replicate (3 - (lg_sl ([.ref (Z 0 0), .int p0])).length) Slot.unset).toArray = ls at hl ⊢
  have hl : lv_has ls 3 [(0, .ref (Z 0 0)), (1, .int p0)] := hl
  unfold wp_X6_keep at hf
  have start : ∀ (H : Heap) (locs : List Loc), va_P D classes (XW cI cZ cW Z Y (Z 1 0) (Z 2 0) S a) H → va_D A (XW cI cZ cW Z Y (Z 1 0) (Z 2 0) S a) → va_S A s.heap H locs → W p l e (headSpec (wsA yX6_keep cX6_keep 3 (some .int)) ({ frames := 2, cells := 0, slots := 0, locals := 61 })).room s m (#[.ref (Z 0 0), .int p0] : Array Value) below meth c H locs 0 0 (MQ below (va_Qi (fun (r : Int32) (u : (Nat → CS) × AS) => Q r u.1 u.2) (fun u t => va_P D classes (XW cI cZ cW Z Y (Z 1 0) (Z 2 0) u.1 u.2) t.heap) A) (#[.ref (Z 0 0), .int p0] : Array Value) s 0 0 A) (F0 m 0 ls []) := by
    intro H locs hP hD hS
    refine lv_aload_n hx hb dX6_keep_0 rfl (lv_at hl 0 rfl) ?_
    refine lv_iload_n hx hb dX6_keep_1 rfl (lv_at hl 1 rfl) ?_
    have hPc : va_P D classes (XW cI cZ cW Z Y (Z 1 0) (Z 2 0) S a) H := hP
    refine va_csq (W.runV (As := [.int p0]) (rest := []) ⟨hx, hb, hml, hown, hts⟩ (c_X6_slotAt l D cI cZ cW Z Y p0 S a _ hf) ⟨callB_of 1 hts (gA tw_640) rfl rfl rfl (ht _ tw_1) (ht _ tw_637) hd_X6_slotAt ⟨Nat.le_of_ble_eq_true rfl, Nat.le_of_ble_eq_true rfl⟩, ht _ tw_639, ht _ twp_17⟩ ⟨PR_blind, va_recv hK hP (ci := 4) (q0 := 0) rfl eX_0, fun U hU hW => PR_mk hPc hK hU hW⟩ rfl rfl hl.1 rfl (lv_room (Nat.le_of_ble_eq_true rfl)) dX6_keep_2 ⟨Nat.zero_le _, Nat.zero_le _⟩) (fun r_1 hf => ?_)
    rcases hf with ⟨rfl, hf⟩ | ⟨k_2, rfl, hf⟩
    · refine W.eq (g2 := F0 m 5 ls [.null]) rfl ?_
      refine lv_astore_nN (lv' := [(2, .null), (0, .ref (Z 0 0)), (1, .int p0)]) hx hb dX6_keep_5 rfl hl (by decide) rfl (fun ls hl => ?_)
      refine lv_aload_nN hx hb dX6_keep_6 rfl (lv_at hl 0 rfl) ?_
      refine lv_ifnonnullN hx hb dX6_keep_7 ?_
      refine lv_iconst (v := (-1 : Int32)) hx hb dX6_keep_10 (by decide) ?_
      exact W.iret (v := (-1 : Int32)) hx hb hr (fun t ht hW => ⟨⟨(-1 : Int32), (S, a), rfl, hf, P_heap ht hP⟩, hS.F ht⟩) hS.2.2 dX6_keep_11
    · refine W.eq (g2 := F0 m 5 ls [.ref (Z k_2 0)]) rfl ?_
      refine lv_astore_n (lv' := [(2, .ref (Z k_2 0)), (0, .ref (Z 0 0)), (1, .int p0)]) hx hb dX6_keep_5 rfl hl (by decide) rfl (fun ls hl => ?_)
      refine lv_aload_n hx hb dX6_keep_6 rfl (lv_at hl 0 rfl) ?_
      refine lv_ifnonnull (tgt := 12) hx hb dX6_keep_7 (by decide) ?_
      refine lv_aload_n hx hb dX6_keep_12 rfl (lv_at hl 0 rfl) ?_
      refine lv_aload_n hx hb dX6_keep_13 rfl (lv_at hl 1 rfl) ?_
      refine va_get (D := D) (ci := 4) (v := .ref (Z 4 0)) (C := RX6) (T := TX6) (N := 12) hx hb ht inX6 hown hK hP 0 eX_0 rfl 5 (by decide) (ht _ tw_158) (fun _ h9 => h9) rfl dX6_keep_14 ?_
      obtain ⟨hk_3, hf⟩ := hf
      have hPc : va_P D classes (wW cI cZ (Z k_2) (S k_2) ++ wW cI cZ (Z 4) (S 4)) H := XP_k_4 hk_3 hP
      have hDc : va_D A (wW cI cZ (Z k_2) (S k_2) ++ wW cI cZ (Z 4) (S 4)) := XD_k_4 hk_3 hD
      have hFc := va_freeX hDc hS hA
      refine va_callv (va_runV (As := [.ref (Z 4 0)]) (rest := []) ⟨hx, hb, hml, hown, hts⟩ (c_X5_copyFrom l D cI cZ cW (Z k_2) (Z 4) H.size (S k_2) (S 4) _ hf) ⟨callB_of 1 hts (gA tw_362) rfl rfl rfl (ht _ tw_4) (ht _ tw_501) hd_X5_copyFrom ⟨Nat.le_of_ble_eq_true rfl, Nat.le_of_ble_eq_true rfl⟩, ht _ tw_360, ht _ tw_361⟩ ⟨PW_blind, RX_k hk_3 hK hP, fun U hU hW => PW_mk hPc hDc hK hU hW⟩ rfl rfl hl.1 rfl (lv_room (Nat.le_of_ble_eq_true rfl)) dX6_keep_17 ⟨Nat.zero_le _, Nat.zero_le _⟩) hS (fun q _ h => hFc q h) hFc (fun u t H1 locs ht1 hvm hf hB hz1 hk1 hS => ?_)
      obtain ⟨s_4, s_5⟩ := u
      dsimp only at hf hB
      rw [ht1] at hB
      have hP := XJ_k_4 hk_3 hP hD hk1 hB
      generalize H1 = H at hP hS ⊢
      obtain ⟨S_6, eS_6⟩ : ∃ y : Nat → CS, y = va_up (va_up S k_2 s_4) 4 s_5 := ⟨_, rfl⟩
      have hf := hf S_6 eS_6
      have hP : va_P D classes (XW cI cZ cW Z Y (Z 1 0) (Z 2 0) S_6 a) H := by rw [eS_6]; exact hP
      have hD := hDk S_6 a
      refine lv_aload_n hx hb dX6_keep_20 rfl (lv_at hl 1 rfl) ?_
      refine lv_dup hx hb dX6_keep_21 rfl ?_
      refine va_get (D := D) (ci := 4) (v := .int ((S_6 0).1 9)) (C := RX6) (T := TX6) (N := 12) hx hb ht inX6 hown hK hP 0 eX_0 rfl 9 (by decide) (ht _ tw_162) (fun _ h9 => h9) rfl dX6_keep_22 ?_
      refine lv_iconst (v := (1 : Int32)) hx hb dX6_keep_25 (by decide) ?_
      refine lv_iload_n hx hb dX6_keep_26 rfl (lv_at hl 2 rfl) ?_
      refine lv_ishl hx hb dX6_keep_27 ?_
      refine lv_ior hx hb dX6_keep_28 ?_
      refine va_put (D := D) (ci := 4) (v := .int (((S_6 0).1 9) ||| ((1 : Int32) <<< (p0 &&& 31)))) (ty := .int) (C := RX6) (T := TX6) (N := 12) hx hb ht inX6 tyX6 tyX6_ok nmX6 hown hK hP hD hS 0 eX_0 rfl 9 (by decide) (ht _ tw_162) (fun _ h9 => h9) rfl pf_I rfl rfl (Nat.le_of_ble_eq_true rfl) dX6_keep_29 (fun H locs hP hD hS => ?_)
      obtain ⟨S_7, eS_7⟩ : ∃ y : Nat → CS, y = va_up S_6 0 (sI (S_6 0) 9 (((S_6 0).1 9) ||| ((1 : Int32) <<< (p0 &&& 31)))) := ⟨_, rfl⟩
      have hf := hf S_7 eS_7
      have hP : va_P D classes (XW cI cZ cW Z Y (Z 1 0) (Z 2 0) S_7 a) H := by rw [eS_7]; exact PX_0_I9 hP
      have hD := hDk S_7 a
      refine lv_aload_n hx hb dX6_keep_32 rfl (lv_at hl 1 rfl) ?_
      refine va_get (D := D) (ci := 4) (v := .ref (Z 4 0)) (C := RX6) (T := TX6) (N := 12) hx hb ht inX6 hown hK hP 0 eX_0 rfl 5 (by decide) (ht _ tw_158) (fun _ h9 => h9) rfl dX6_keep_33 ?_
      refine va_get (D := D) (ci := 3) (v := .int ((S_7 4).1 5)) (C := RX5) (T := TX5) (N := 6) hx hb ht inX5 hown hK hP 21 eX_21 rfl 5 (by decide) (ht _ tw_101) (fun _ h9 => h9) rfl dX6_keep_36 ?_
      exact W.iret (v := ((S_7 4).1 5)) hx hb hr (fun t ht hW => ⟨⟨((S_7 4).1 5), (S_7, a), rfl, hf, P_heap ht hP⟩, hS.F ht⟩) hS.2.2 dX6_keep_39
  exact start s.heap [] hP hD hS
def wp_X6_again (p0 : Int32) (Z : Nat → Nat → Nat) (Y : Nat → Nat → Nat) (S : Nat → CS) (a : AS) (Q : Int32 → (Nat → CS) → AS → Prop) : Prop := wp_X6_slotAt p0 Z Y S a (fun r_1 => (r_1 = none ∧ Q (-1 : Int32) S a) ∨ (∃ k_2 : Nat, r_1 = some (Z k_2 0) ∧ ((¬ (((S 0).1 9) &&& ((1 : Int32) <<< (p0 &&& 31))) = 0 → (k_2 = 7 ∨ k_2 = 8) ∧ wp_X5_copyFrom (S 4) (S k_2) (fun s_5 s_6 => ∀ S_7 : Nat → CS, S_7 = va_up (va_up S 4 s_5) k_2 s_6 → wp_X0_forgetAll Y a (fun a_8 => Q ((S_7 4).1 5) S_7 a_8))) ∧ ((((S 0).1 9) &&& ((1 : Int32) <<< (p0 &&& 31))) = 0 → Q (-3 : Int32) S a))))
set_option maxHeartbeats 4000000 in
set_option maxRecDepth 100000 in
theorem c_X6_again (l : Launch) (D : va_G) (cI cZ cW : ClassId) (Z : Nat → Nat → Nat) (Y : Nat → Nat → Nat) (sz : Nat) (p0 : Int32) (S : Nat → CS) (a : AS) (Q : Int32 → (Nat → CS) → AS → Prop) (hf : wp_X6_again p0 Z Y S a Q) : Met l yX6_again (wsA yX6_again cX6_again 3 (some .int)) ({ frames := 2, cells := 0, slots := 0, locals := 61 }) (PW D cI cZ cW [.ref (Z 0 0), .int p0] (XW cI cZ cW Z Y (Z 1 0) (Z 2 0) S a) sz) (va_Qi (fun (r : Int32) (u : (Nat → CS) × AS) => Q r u.1 u.2) (fun u t => va_P D classes (XW cI cZ cW Z Y (Z 1 0) (Z 2 0) u.1 u.2) t.heap) (va_A (XW cI cZ cW Z Y (Z 1 0) (Z 2 0) S a) sz)) 0 0 (va_A (XW cI cZ cW Z Y (Z 1 0) (Z 2 0) S a) sz) := by
  refine Met.ofW (cc := cX6_again) (maxL := 3) (ret := (some .int)) (by decide) rfl ?_
  intro p e s m args below meth c s₁ B hml hv
  obtain ⟨rfl, hsz, hP, hK, hD0⟩ := hv
  have hx := B.exec
  have hb := B.bytes
  have hr := B.returns
  have hts := atoms_spec (ws := (wsA yX6_again cX6_again 3 (some .int))) B.pre
  have ht : ∀ w ∈ lw_g, w.before _ s = true := fun w h => hts w (List.mem_cons_of_mem _ h)
  have hown : s.vm.findClass RX6 = some m.cls := findClass_of_methodNamed B.named
  have hlocks := B.notSynchronized
  subst hsz
  have hD := hD0.self (sz := s.heap.size)
  generalize hAe : va_A (XW cI cZ cW Z Y (Z 1 0) (Z 2 0) S a) s.heap.size = A at hD ⊢
  have hA : ∀ q : Nat, s.heap.size ≤ q → A q := fun q h => by rw [← hAe]; exact Or.inr h
  have hS : va_S A s.heap s.heap [] := va_S.rf
  have hDk : ∀ (x : Nat → CS) (y : AS), va_D A (XW cI cZ cW Z Y (Z 1 0) (Z 2 0) x y) := fun x y => D_X hD
  have hl := lv_entry ([.ref (Z 0 0), .int p0]) (n := 3) (Nat.le_of_ble_eq_true rfl)
  rw [lg_entry_eq]
  generalize (lg_sl ([.ref (Z 0 0), .int p0]) ++ List.replicate (3 - (lg_sl ([.ref (Z 0 0), .int p0])).length) Slot.unset).toArray = ls at hl ⊢
  have hl : lv_has ls 3 [(0, .ref (Z 0 0)), (1, .int p0)] := hl
  unfold wp_X6_again at hf
  have start : ∀ (H : Heap) (locs : List Loc), va_P D classes (XW cI cZ cW Z Y (Z 1 0) (Z 2 0) S a) H → va_D A (XW cI cZ cW Z Y (Z 1 0) (Z 2 0) S a) → va_S A s.heap H locs → W p l e (headSpec (wsA yX6_again cX6_again 3 (some .int)) ({ frames := 2, cells := 0, slots := 0, locals := 61 })).room s m (#[.ref (Z 0 0), .int p0] : Array Value) below meth c H locs 0 0 (MQ below (va_Qi (fun (r : Int32) (u : (Nat → CS) × AS) => Q r u.1 u.2) (fun u t => va_P D classes (XW cI cZ cW Z Y (Z 1 0) (Z 2 0) u.1 u.2) t.heap) A) (#[.ref (Z 0 0), .int p0] : Array Value) s 0 0 A) (F0 m 0 ls []) := by
    intro H locs hP hD hS
    refine lv_aload_n hx hb dX6_again_0 rfl (lv_at hl 0 rfl) ?_
    refine lv_iload_n hx hb dX6_again_1 rfl (lv_at hl 1 rfl) ?_
    have hPc : va_P D classes (XW cI cZ cW Z Y (Z 1 0) (Z 2 0) S a) H := hP
    refine va_csq (W.runV (As := [.int p0]) (rest := []) ⟨hx, hb, hml, hown, hts⟩ (c_X6_slotAt l D cI cZ cW Z Y p0 S a _ hf) ⟨callB_of 1 hts (gA tw_640) rfl rfl rfl (ht _ tw_1) (ht _ tw_637) hd_X6_slotAt ⟨Nat.le_of_ble_eq_true rfl, Nat.le_of_ble_eq_true rfl⟩, ht _ tw_639, ht _ twp_17⟩ ⟨PR_blind, va_recv hK hP (ci := 4) (q0 := 0) rfl eX_0, fun U hU hW => PR_mk hPc hK hU hW⟩ rfl rfl hl.1 rfl (lv_room (Nat.le_of_ble_eq_true rfl)) dX6_again_2 ⟨Nat.zero_le _, Nat.zero_le _⟩) (fun r_1 hf => ?_)
    rcases hf with ⟨rfl, hf⟩ | ⟨k_2, rfl, hf⟩
    · refine W.eq (g2 := F0 m 5 ls [.null]) rfl ?_
      refine lv_astore_nN (lv' := [(2, .null), (0, .ref (Z 0 0)), (1, .int p0)]) hx hb dX6_again_5 rfl hl (by decide) rfl (fun ls hl => ?_)
      refine lv_aload_nN hx hb dX6_again_6 rfl (lv_at hl 0 rfl) ?_
      refine lv_ifnonnullN hx hb dX6_again_7 ?_
      refine lv_iconst (v := (-1 : Int32)) hx hb dX6_again_10 (by decide) ?_
      exact W.iret (v := (-1 : Int32)) hx hb hr (fun t ht hW => ⟨⟨(-1 : Int32), (S, a), rfl, hf, P_heap ht hP⟩, hS.F ht⟩) hS.2.2 dX6_again_11
    · refine W.eq (g2 := F0 m 5 ls [.ref (Z k_2 0)]) rfl ?_
      refine lv_astore_n (lv' := [(2, .ref (Z k_2 0)), (0, .ref (Z 0 0)), (1, .int p0)]) hx hb dX6_again_5 rfl hl (by decide) rfl (fun ls hl => ?_)
      refine lv_aload_n hx hb dX6_again_6 rfl (lv_at hl 0 rfl) ?_
      refine lv_ifnonnull (tgt := 12) hx hb dX6_again_7 (by decide) ?_
      refine lv_aload_n hx hb dX6_again_12 rfl (lv_at hl 1 rfl) ?_
      refine va_get (D := D) (ci := 4) (v := .int ((S 0).1 9)) (C := RX6) (T := TX6) (N := 12) hx hb ht inX6 hown hK hP 0 eX_0 rfl 9 (by decide) (ht _ tw_162) (fun _ h9 => h9) rfl dX6_again_13 ?_
      refine lv_iconst (v := (1 : Int32)) hx hb dX6_again_16 (by decide) ?_
      refine lv_iload_n hx hb dX6_again_17 rfl (lv_at hl 2 rfl) ?_
      refine lv_ishl hx hb dX6_again_18 ?_
      refine lv_iand hx hb dX6_again_19 ?_
      refine lv_if_ne (tgt := 26) hx hb dX6_again_20 (by decide) (fun c_3 => ?_) (fun c_3 => ?_)
      · have hf := hf.1 c_3
        refine lv_aload_n hx hb dX6_again_26 rfl (lv_at hl 1 rfl) ?_
        refine va_get (D := D) (ci := 4) (v := .ref (Z 4 0)) (C := RX6) (T := TX6) (N := 12) hx hb ht inX6 hown hK hP 0 eX_0 rfl 5 (by decide) (ht _ tw_158) (fun _ h9 => h9) rfl dX6_again_27 ?_
        refine lv_aload_n hx hb dX6_again_30 rfl (lv_at hl 0 rfl) ?_
        obtain ⟨hk_4, hf⟩ := hf
        have hPc : va_P D classes (wW cI cZ (Z 4) (S 4) ++ wW cI cZ (Z k_2) (S k_2)) H := XP_4_k hk_4 hP
        have hDc : va_D A (wW cI cZ (Z 4) (S 4) ++ wW cI cZ (Z k_2) (S k_2)) := XD_4_k hk_4 hD
        have hFc := va_freeX hDc hS hA
        refine va_callv (va_runV (As := [.ref (Z k_2 0)]) (rest := []) ⟨hx, hb, hml, hown, hts⟩ (c_X5_copyFrom l D cI cZ cW (Z 4) (Z k_2) H.size (S 4) (S k_2) _ hf) ⟨callB_of 1 hts (gA tw_362) rfl rfl rfl (ht _ tw_4) (ht _ tw_501) hd_X5_copyFrom ⟨Nat.le_of_ble_eq_true rfl, Nat.le_of_ble_eq_true rfl⟩, ht _ tw_360, ht _ tw_361⟩ ⟨PW_blind, va_recv hK hP (ci := 3) (q0 := 21) rfl eX_21, fun U hU hW => PW_mk hPc hDc hK hU hW⟩ rfl rfl hl.1 rfl (lv_room (Nat.le_of_ble_eq_true rfl)) dX6_again_31 ⟨Nat.zero_le _, Nat.zero_le _⟩) hS (fun q _ h => hFc q h) hFc (fun u t H1 locs ht1 hvm hf hB hz1 hk1 hS => ?_)
        obtain ⟨s_5, s_6⟩ := u
        dsimp only at hf hB
        rw [ht1] at hB
        have hP := XJ_4_k hk_4 hP hD hk1 hB
        generalize H1 = H at hP hS ⊢
        obtain ⟨S_7, eS_7⟩ : ∃ y : Nat → CS, y = va_up (va_up S 4 s_5) k_2 s_6 := ⟨_, rfl⟩
        have hf := hf S_7 eS_7
        have hP : va_P D classes (XW cI cZ cW Z Y (Z 1 0) (Z 2 0) S_7 a) H := by rw [eS_7]; exact hP
        have hD := hDk S_7 a
        refine lv_aload_n hx hb dX6_again_34 rfl (lv_at hl 1 rfl) ?_
        refine va_get (D := D) (ci := 4) (v := .ref (Z 9 0)) (C := RX6) (T := TX6) (N := 12) hx hb ht inX6 hown hK hP 0 eX_0 rfl 7 (by decide) (ht _ tw_160) (fun _ h9 => h9) rfl dX6_again_35 ?_
        have hPc : va_P D classes (wA cI cZ cW (Z 9) Y a) H := XP_9 hP
        have hDc : va_D A (wA cI cZ cW (Z 9) Y a) := XD_9 hD
        have hFc := va_freeX hDc hS hA
        refine va_callv (va_runV (As := []) (rest := []) ⟨hx, hb, hml, hown, hts⟩ (c_X0_forgetAll l D cI cZ cW (Z 9) Y H.size a _ hf) ⟨callB_of 0 hts (gA tw_270) rfl rfl rfl (ht _ tw_5) (ht _ tw_267) hd_X0_forgetAll ⟨Nat.le_of_ble_eq_true rfl, Nat.le_of_ble_eq_true rfl⟩, ht _ tw_268, ht _ tw_269⟩ ⟨PW_blind, va_recv hK hP (ci := 0) (q0 := 45) rfl eX_45, fun U hU hW => PW_mk hPc hDc hK hU hW⟩ rfl rfl hl.1 rfl (lv_room (Nat.le_of_ble_eq_true rfl)) dX6_again_38 ⟨Nat.zero_le _, Nat.zero_le _⟩) hS (fun q _ h => hFc q h) hFc (fun u t H1 locs ht1 hvm hf hB hz1 hk1 hS => ?_)
        obtain ⟨a_8, rfl⟩ : ∃ z, z = u := ⟨_, rfl⟩
        rw [ht1] at hB
        have hP := XJ_9 hP hD hk1 hB
        generalize H1 = H at hP hS ⊢
        have hD := hDk S_7 a_8
        refine lv_aload_n hx hb dX6_again_41 rfl (lv_at hl 1 rfl) ?_
        refine va_get (D := D) (ci := 4) (v := .ref (Z 4 0)) (C := RX6) (T := TX6) (N := 12) hx hb ht inX6 hown hK hP 0 eX_0 rfl 5 (by decide) (ht _ tw_158) (fun _ h9 => h9) rfl dX6_again_42 ?_
        refine va_get (D := D) (ci := 3) (v := .int ((S_7 4).1 5)) (C := RX5) (T := TX5) (N := 6) hx hb ht inX5 hown hK hP 21 eX_21 rfl 5 (by decide) (ht _ tw_101) (fun _ h9 => h9) rfl dX6_again_45 ?_
        exact W.iret (v := ((S_7 4).1 5)) hx hb hr (fun t ht hW => ⟨⟨((S_7 4).1 5), (S_7, a_8), rfl, hf, P_heap ht hP⟩, hS.F ht⟩) hS.2.2 dX6_again_48
      · have hf := hf.2 c_3
        refine lv_bipush (v := (-3 : Int32)) hx hb dX6_again_23 (by decide) ?_
        exact W.iret (v := (-3 : Int32)) hx hb hr (fun t ht hW => ⟨⟨(-3 : Int32), (S, a), rfl, hf, P_heap ht hP⟩, hS.F ht⟩) hS.2.2 dX6_again_25
  exact start s.heap [] hP hD hS
def wp_X6_count (p0 : Int32) (Z : Nat → Nat → Nat) (Y : Nat → Nat → Nat) (S : Nat → CS) (a : AS) (Q : Int32 → Prop) : Prop := ((p0 = (0 : Int32) → Q ((S 0).1 1)) ∧ (¬ p0 = (0 : Int32) → ((p0 = (1 : Int32) → Q ((S 1).1 0)) ∧ (¬ p0 = (1 : Int32) → ((p0 = (2 : Int32) → Q ((S 1).1 1)) ∧ (¬ p0 = (2 : Int32) → ((p0 = (3 : Int32) → Q ((S 4).1 5)) ∧ (¬ p0 = (3 : Int32) → ((p0 = (4 : Int32) → wp_X5_holeCells (S 4) (fun r_6 => Q r_6)) ∧ (¬ p0 = (4 : Int32) → ((p0 = (5 : Int32) → Q ((S 4).1 4)) ∧ (¬ p0 = (5 : Int32) → ((p0 = (6 : Int32) → wp_X5_holesLeft (S 4) (fun r_9 => Q r_9)) ∧ (¬ p0 = (6 : Int32) → ((p0 = (7 : Int32) → Q (a.1.1 1)) ∧ (¬ p0 = (7 : Int32) → ((p0 = (8 : Int32) → Q ((S 6).1 3)) ∧ (¬ p0 = (8 : Int32) → Q (-2 : Int32)))))))))))))))))))
set_option maxHeartbeats 4000000 in
set_option maxRecDepth 100000 in
theorem c_X6_count (l : Launch) (D : va_G) (cI cZ cW : ClassId) (Z : Nat → Nat → Nat) (Y : Nat → Nat → Nat) (p0 : Int32) (S : Nat → CS) (a : AS) (Q : Int32 → Prop) (hf : wp_X6_count p0 Z Y S a Q) : Met l yX6_count (wsA yX6_count cX6_count 2 (some .int)) ({ frames := 1, cells := 0, slots := 0, locals := 22 }) (PR D cI cZ cW [.ref (Z 0 0), .int p0] (XW cI cZ cW Z Y (Z 1 0) (Z 2 0) S a)) (vp_Si Q) 0 0 (fun _ => False) := by
  refine Met.ofW (cc := cX6_count) (maxL := 2) (ret := (some .int)) (by decide) rfl ?_
  intro p e s m args below meth c s₁ B hml hv
  obtain ⟨rfl, hP, hK⟩ := hv
  have hx := B.exec
  have hb := B.bytes
  have hr := B.returns
  have hts := atoms_spec (ws := (wsA yX6_count cX6_count 2 (some .int))) B.pre
  have ht : ∀ w ∈ lw_g, w.before _ s = true := fun w h => hts w (List.mem_cons_of_mem _ h)
  have hown : s.vm.findClass RX6 = some m.cls := findClass_of_methodNamed B.named
  have hlocks := B.notSynchronized
  have hl := lv_entry ([.ref (Z 0 0), .int p0]) (n := 2) (Nat.le_of_ble_eq_true rfl)
  rw [lg_entry_eq]
  generalize (lg_sl ([.ref (Z 0 0), .int p0]) ++ List.replicate (2 - (lg_sl ([.ref (Z 0 0), .int p0])).length) Slot.unset).toArray = ls at hl ⊢
  have hl : lv_has ls 2 [(0, .ref (Z 0 0)), (1, .int p0)] := hl
  unfold wp_X6_count at hf
  refine lv_iload_n hx hb dX6_count_0 rfl (lv_at hl 1 rfl) ?_
  by_cases c_1 : p0 = (0 : Int32)
  · have hf := hf.1 c_1
    refine lv_tableIn (off := 51) (tgt := 52) hx hb dX6_count_1 (by rw [c_1]; decide) (by rw [c_1]; decide) (by rw [c_1]; first | done | rfl) (by decide) ?_
    refine lv_aload_n hx hb dX6_count_52 rfl (lv_at hl 0 rfl) ?_
    refine va_get (D := D) (ci := 4) (v := .int ((S 0).1 1)) (C := RX6) (T := TX6) (N := 12) hx hb ht inX6 hown hK hP 0 eX_0 rfl 1 (by decide) (ht _ tw_154) (fun _ h9 => h9) rfl dX6_count_53 ?_
    exact W.iret (v := ((S 0).1 1)) hx hb hr (fun t ht hW => ⟨((S 0).1 1), rfl, hf, ht⟩) (fun q h => absurd h List.not_mem_nil) dX6_count_56
  · have hf := hf.2 c_1
    by_cases c_2 : p0 = (1 : Int32)
    · have hf := hf.1 c_2
      refine lv_tableIn (off := 56) (tgt := 57) hx hb dX6_count_1 (by rw [c_2]; decide) (by rw [c_2]; decide) (by rw [c_2]; first | done | rfl) (by decide) ?_
      refine lv_aload_n hx hb dX6_count_57 rfl (lv_at hl 0 rfl) ?_
      refine va_get (D := D) (ci := 4) (v := .ref (Z 1 0)) (C := RX6) (T := TX6) (N := 12) hx hb ht inX6 hown hK hP 0 eX_0 rfl 2 (by decide) (ht _ tw_155) (fun _ h9 => h9) rfl dX6_count_58 ?_
      refine va_get (D := D) (ci := 1) (v := .int ((S 1).1 0)) (C := RX1) (T := TX1) (N := 14) hx hb ht inX1 hown hK hP 3 eX_3 rfl 0 (by decide) (ht _ tw_31) (fun _ h9 => h9) rfl dX6_count_61 ?_
      exact W.iret (v := ((S 1).1 0)) hx hb hr (fun t ht hW => ⟨((S 1).1 0), rfl, hf, ht⟩) (fun q h => absurd h List.not_mem_nil) dX6_count_64
    · have hf := hf.2 c_2
      by_cases c_3 : p0 = (2 : Int32)
      · have hf := hf.1 c_3
        refine lv_tableIn (off := 64) (tgt := 65) hx hb dX6_count_1 (by rw [c_3]; decide) (by rw [c_3]; decide) (by rw [c_3]; first | done | rfl) (by decide) ?_
        refine lv_aload_n hx hb dX6_count_65 rfl (lv_at hl 0 rfl) ?_
        refine va_get (D := D) (ci := 4) (v := .ref (Z 1 0)) (C := RX6) (T := TX6) (N := 12) hx hb ht inX6 hown hK hP 0 eX_0 rfl 2 (by decide) (ht _ tw_155) (fun _ h9 => h9) rfl dX6_count_66 ?_
        refine va_get (D := D) (ci := 1) (v := .int ((S 1).1 1)) (C := RX1) (T := TX1) (N := 14) hx hb ht inX1 hown hK hP 3 eX_3 rfl 1 (by decide) (ht _ tw_33) (fun _ h9 => h9) rfl dX6_count_69 ?_
        exact W.iret (v := ((S 1).1 1)) hx hb hr (fun t ht hW => ⟨((S 1).1 1), rfl, hf, ht⟩) (fun q h => absurd h List.not_mem_nil) dX6_count_72
      · have hf := hf.2 c_3
        by_cases c_4 : p0 = (3 : Int32)
        · have hf := hf.1 c_4
          refine lv_tableIn (off := 72) (tgt := 73) hx hb dX6_count_1 (by rw [c_4]; decide) (by rw [c_4]; decide) (by rw [c_4]; first | done | rfl) (by decide) ?_
          refine lv_aload_n hx hb dX6_count_73 rfl (lv_at hl 0 rfl) ?_
          refine va_get (D := D) (ci := 4) (v := .ref (Z 4 0)) (C := RX6) (T := TX6) (N := 12) hx hb ht inX6 hown hK hP 0 eX_0 rfl 5 (by decide) (ht _ tw_158) (fun _ h9 => h9) rfl dX6_count_74 ?_
          refine va_get (D := D) (ci := 3) (v := .int ((S 4).1 5)) (C := RX5) (T := TX5) (N := 6) hx hb ht inX5 hown hK hP 21 eX_21 rfl 5 (by decide) (ht _ tw_101) (fun _ h9 => h9) rfl dX6_count_77 ?_
          exact W.iret (v := ((S 4).1 5)) hx hb hr (fun t ht hW => ⟨((S 4).1 5), rfl, hf, ht⟩) (fun q h => absurd h List.not_mem_nil) dX6_count_80
        · have hf := hf.2 c_4
          by_cases c_5 : p0 = (4 : Int32)
          · have hf := hf.1 c_5
            refine lv_tableIn (off := 80) (tgt := 81) hx hb dX6_count_1 (by rw [c_5]; decide) (by rw [c_5]; decide) (by rw [c_5]; first | done | rfl) (by decide) ?_
            refine lv_aload_n hx hb dX6_count_81 rfl (lv_at hl 0 rfl) ?_
            refine va_get (D := D) (ci := 4) (v := .ref (Z 4 0)) (C := RX6) (T := TX6) (N := 12) hx hb ht inX6 hown hK hP 0 eX_0 rfl 5 (by decide) (ht _ tw_158) (fun _ h9 => h9) rfl dX6_count_82 ?_
            have hPc : va_P D classes (wW cI cZ (Z 4) (S 4)) s.heap := XP_4 hP
            refine vp_callSi (W.runV (As := []) (rest := []) ⟨hx, hb, hml, hown, hts⟩ (c_X5_holeCells l D cI cZ cW (Z 4) (S 4) _ hf) ⟨callB_of 0 hts (gA tw_301) rfl rfl rfl (ht _ tw_4) (ht _ tw_562) hd_X5_holeCells ⟨Nat.le_of_ble_eq_true rfl, Nat.le_of_ble_eq_true rfl⟩, ht _ tw_299, ht _ tw_300⟩ ⟨PR_blind, va_recv hK hP (ci := 3) (q0 := 21) rfl eX_21, fun U hU hW => PR_mk hPc hK hU hW⟩ rfl rfl hl.1 rfl (lv_room (Nat.le_of_ble_eq_true rfl)) dX6_count_85 ⟨Nat.zero_le _, Nat.zero_le _⟩) (fun r_6 hf => ?_)
            exact W.iret (v := r_6) hx hb hr (fun t ht hW => ⟨r_6, rfl, hf, ht⟩) (fun q h => absurd h List.not_mem_nil) dX6_count_88
          · have hf := hf.2 c_5
            by_cases c_7 : p0 = (5 : Int32)
            · have hf := hf.1 c_7
              refine lv_tableIn (off := 88) (tgt := 89) hx hb dX6_count_1 (by rw [c_7]; decide) (by rw [c_7]; decide) (by rw [c_7]; first | done | rfl) (by decide) ?_
              refine lv_aload_n hx hb dX6_count_89 rfl (lv_at hl 0 rfl) ?_
              refine va_get (D := D) (ci := 4) (v := .ref (Z 4 0)) (C := RX6) (T := TX6) (N := 12) hx hb ht inX6 hown hK hP 0 eX_0 rfl 5 (by decide) (ht _ tw_158) (fun _ h9 => h9) rfl dX6_count_90 ?_
              refine va_get (D := D) (ci := 3) (v := .int ((S 4).1 4)) (C := RX5) (T := TX5) (N := 6) hx hb ht inX5 hown hK hP 21 eX_21 rfl 4 (by decide) (ht _ tw_99) (fun _ h9 => h9) rfl dX6_count_93 ?_
              exact W.iret (v := ((S 4).1 4)) hx hb hr (fun t ht hW => ⟨((S 4).1 4), rfl, hf, ht⟩) (fun q h => absurd h List.not_mem_nil) dX6_count_96
            · have hf := hf.2 c_7
              by_cases c_8 : p0 = (6 : Int32)
              · have hf := hf.1 c_8
                refine lv_tableIn (off := 96) (tgt := 97) hx hb dX6_count_1 (by rw [c_8]; decide) (by rw [c_8]; decide) (by rw [c_8]; first | done | rfl) (by decide) ?_
                refine lv_aload_n hx hb dX6_count_97 rfl (lv_at hl 0 rfl) ?_
                refine va_get (D := D) (ci := 4) (v := .ref (Z 4 0)) (C := RX6) (T := TX6) (N := 12) hx hb ht inX6 hown hK hP 0 eX_0 rfl 5 (by decide) (ht _ tw_158) (fun _ h9 => h9) rfl dX6_count_98 ?_
                have hPc : va_P D classes (wW cI cZ (Z 4) (S 4)) s.heap := XP_4 hP
                refine vp_callSi (W.runV (As := []) (rest := []) ⟨hx, hb, hml, hown, hts⟩ (c_X5_holesLeft l D cI cZ cW (Z 4) (S 4) _ hf) ⟨callB_of 0 hts (gA tw_510) rfl rfl rfl (ht _ tw_4) (ht _ tw_507) hd_X5_holesLeft ⟨Nat.le_of_ble_eq_true rfl, Nat.le_of_ble_eq_true rfl⟩, ht _ tw_508, ht _ tw_509⟩ ⟨PR_blind, va_recv hK hP (ci := 3) (q0 := 21) rfl eX_21, fun U hU hW => PR_mk hPc hK hU hW⟩ rfl rfl hl.1 rfl (lv_room (Nat.le_of_ble_eq_true rfl)) dX6_count_101 ⟨Nat.zero_le _, Nat.zero_le _⟩) (fun r_9 hf => ?_)
                exact W.iret (v := r_9) hx hb hr (fun t ht hW => ⟨r_9, rfl, hf, ht⟩) (fun q h => absurd h List.not_mem_nil) dX6_count_104
              · have hf := hf.2 c_8
                by_cases c_10 : p0 = (7 : Int32)
                · have hf := hf.1 c_10
                  refine lv_tableIn (off := 104) (tgt := 105) hx hb dX6_count_1 (by rw [c_10]; decide) (by rw [c_10]; decide) (by rw [c_10]; first | done | rfl) (by decide) ?_
                  refine lv_aload_n hx hb dX6_count_105 rfl (lv_at hl 0 rfl) ?_
                  refine va_get (D := D) (ci := 4) (v := .ref (Z 9 0)) (C := RX6) (T := TX6) (N := 12) hx hb ht inX6 hown hK hP 0 eX_0 rfl 7 (by decide) (ht _ tw_160) (fun _ h9 => h9) rfl dX6_count_106 ?_
                  refine va_get (D := D) (ci := 0) (v := .int (a.1.1 1)) (C := RX0) (T := TX0) (N := 2) hx hb ht inX0 hown hK hP 45 eX_45 rfl 1 (by decide) (ht _ tw_126) (fun _ h9 => h9) rfl dX6_count_109 ?_
                  exact W.iret (v := (a.1.1 1)) hx hb hr (fun t ht hW => ⟨(a.1.1 1), rfl, hf, ht⟩) (fun q h => absurd h List.not_mem_nil) dX6_count_112
                · have hf := hf.2 c_10
                  by_cases c_11 : p0 = (8 : Int32)
                  · have hf := hf.1 c_11
                    refine lv_tableIn (off := 112) (tgt := 113) hx hb dX6_count_1 (by rw [c_11]; decide) (by rw [c_11]; decide) (by rw [c_11]; first | done | rfl) (by decide) ?_
                    refine lv_aload_n hx hb dX6_count_113 rfl (lv_at hl 0 rfl) ?_
                    refine va_get (D := D) (ci := 4) (v := .ref (Z 6 0)) (C := RX6) (T := TX6) (N := 12) hx hb ht inX6 hown hK hP 0 eX_0 rfl 10 (by decide) (ht _ tw_163) (fun _ h9 => h9) rfl dX6_count_114 ?_
                    refine va_get (D := D) (ci := 2) (v := .int ((S 6).1 3)) (C := RX4) (T := TX4) (N := 4) hx hb ht inX4 hown hK hP 31 eX_31 rfl 3 (by decide) (ht _ tw_142) (fun _ h9 => h9) rfl dX6_count_117 ?_
                    exact W.iret (v := ((S 6).1 3)) hx hb hr (fun t ht hW => ⟨((S 6).1 3), rfl, hf, ht⟩) (fun q h => absurd h List.not_mem_nil) dX6_count_120
                  · have hf := hf.2 c_11
                    refine lv_tableOut (tgt := 121) hx hb dX6_count_1 (by have h0 := lv_neT (a := 0) c_1 (by decide); have h1 := lv_neT (a := 1) c_2 (by decide); have h2 := lv_neT (a := 2) c_3 (by decide); have h3 := lv_neT (a := 3) c_4 (by decide); have h4 := lv_neT (a := 4) c_5 (by decide); have h5 := lv_neT (a := 5) c_7 (by decide); have h6 := lv_neT (a := 6) c_8 (by decide); have h7 := lv_neT (a := 7) c_10 (by decide); have h8 := lv_neT (a := 8) c_11 (by decide); omega) (by decide) ?_
                    refine lv_bipush (v := (-2 : Int32)) hx hb dX6_count_121 (by decide) ?_
                    exact W.iret (v := (-2 : Int32)) hx hb hr (fun t ht hW => ⟨(-2 : Int32), rfl, hf, ht⟩) (fun q h => absurd h List.not_mem_nil) dX6_count_123
