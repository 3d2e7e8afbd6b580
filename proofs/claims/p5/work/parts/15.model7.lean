theorem dX7_gain_0 : decode cX7_gain 0 = .ok (.iload_n 2, 1) := by decide +kernel
theorem dX7_gain_1 : decode cX7_gain 1 = .ok (.iload_n 3, 1) := by decide +kernel
theorem dX7_gain_2 : decode cX7_gain 2 = .ok (.if_icmp .ge 11, 3) := by decide +kernel
theorem dX7_gain_5 : decode cX7_gain 5 = .ok (.aload_n 0, 1) := by decide +kernel
theorem dX7_gain_6 : decode cX7_gain 6 = .ok (.iload_n 1, 1) := by decide +kernel
theorem dX7_gain_7 : decode cX7_gain 7 = .ok (.invokevirtual 239, 3) := by decide +kernel
theorem dX7_gain_10 : decode cX7_gain 10 = .ok (.goto 13, 3) := by decide +kernel
theorem dX7_gain_13 : decode cX7_gain 13 = .ok (.iload_n 2, 1) := by decide +kernel
theorem dX7_gain_14 : decode cX7_gain 14 = .ok (.iload_n 3, 1) := by decide +kernel
theorem dX7_gain_15 : decode cX7_gain 15 = .ok (.if_icmp .le 7, 3) := by decide +kernel
theorem dX7_gain_18 : decode cX7_gain 18 = .ok (.iconst 0, 1) := by decide +kernel
theorem dX7_gain_19 : decode cX7_gain 19 = .ok (.goto 4, 3) := by decide +kernel
theorem dX7_gain_22 : decode cX7_gain 22 = .ok (.iload_n 2, 1) := by decide +kernel
theorem dX7_gain_23 : decode cX7_gain 23 = .ok (.ireturn, 1) := by decide +kernel
theorem dX7_rests_0 : decode cX7_rests 0 = .ok (.aload_n 0, 1) := by decide +kernel
theorem dX7_rests_1 : decode cX7_rests 1 = .ok (.iload_n 1, 1) := by decide +kernel
theorem dX7_rests_2 : decode cX7_rests 2 = .ok (.invokevirtual 157, 3) := by decide +kernel
theorem dX7_rests_5 : decode cX7_rests 5 = .ok (.ifCond .eq 11, 3) := by decide +kernel
theorem dX7_rests_8 : decode cX7_rests 8 = .ok (.aload_n 0, 1) := by decide +kernel
theorem dX7_rests_9 : decode cX7_rests 9 = .ok (.iload_n 2, 1) := by decide +kernel
theorem dX7_rests_10 : decode cX7_rests 10 = .ok (.invokevirtual 157, 3) := by decide +kernel
theorem dX7_rests_13 : decode cX7_rests 13 = .ok (.ifCond .ne 5, 3) := by decide +kernel
theorem dX7_rests_16 : decode cX7_rests 16 = .ok (.iconst (-1), 1) := by decide +kernel
theorem dX7_rests_17 : decode cX7_rests 17 = .ok (.ireturn, 1) := by decide +kernel
theorem dX7_rests_18 : decode cX7_rests 18 = .ok (.iload_n 1, 1) := by decide +kernel
theorem dX7_rests_19 : decode cX7_rests 19 = .ok (.iload_n 2, 1) := by decide +kernel
theorem dX7_rests_20 : decode cX7_rests 20 = .ok (.if_icmp .eq 13, 3) := by decide +kernel
theorem dX7_rests_23 : decode cX7_rests 23 = .ok (.iload_n 3, 1) := by decide +kernel
theorem dX7_rests_24 : decode cX7_rests 24 = .ok (.i2l, 1) := by decide +kernel
theorem dX7_rests_25 : decode cX7_rests 25 = .ok (.lconst 0, 1) := by decide +kernel
theorem dX7_rests_26 : decode cX7_rests 26 = .ok (.lconst 1, 1) := by decide +kernel
theorem dX7_rests_27 : decode cX7_rests 27 = .ok (.invokestatic 58, 3) := by decide +kernel
theorem dX7_rests_30 : decode cX7_rests 30 = .ok (.ifCond .ne 6, 3) := by decide +kernel
theorem dX7_rests_33 : decode cX7_rests 33 = .ok (.bipush (-2), 2) := by decide +kernel
theorem dX7_rests_35 : decode cX7_rests 35 = .ok (.ireturn, 1) := by decide +kernel
theorem dX7_rests_36 : decode cX7_rests 36 = .ok (.iconst 0, 1) := by decide +kernel
theorem dX7_rests_37 : decode cX7_rests 37 = .ok (.istore 4, 2) := by decide +kernel
theorem dX7_rests_39 : decode cX7_rests 39 = .ok (.bipush (-9), 2) := by decide +kernel
theorem dX7_rests_41 : decode cX7_rests 41 = .ok (.istore 5, 2) := by decide +kernel
theorem dX7_rests_43 : decode cX7_rests 43 = .ok (.iconst 0, 1) := by decide +kernel
theorem dX7_rests_44 : decode cX7_rests 44 = .ok (.istore 6, 2) := by decide +kernel
theorem dX7_rests_46 : decode cX7_rests 46 = .ok (.iload 6, 2) := by decide +kernel
theorem dX7_rests_48 : decode cX7_rests 48 = .ok (.iconst 4, 1) := by decide +kernel
theorem dX7_rests_49 : decode cX7_rests 49 = .ok (.if_icmp .ge 118, 3) := by decide +kernel
theorem dX7_rests_52 : decode cX7_rests 52 = .ok (.iconst 1, 1) := by decide +kernel
theorem dX7_rests_53 : decode cX7_rests 53 = .ok (.iload 6, 2) := by decide +kernel
theorem dX7_rests_55 : decode cX7_rests 55 = .ok (.iconst 2, 1) := by decide +kernel
theorem dX7_rests_56 : decode cX7_rests 56 = .ok (.idiv, 1) := by decide +kernel
theorem dX7_rests_57 : decode cX7_rests 57 = .ok (.iadd, 1) := by decide +kernel
theorem dX7_rests_58 : decode cX7_rests 58 = .ok (.istore 7, 2) := by decide +kernel
theorem dX7_rests_60 : decode cX7_rests 60 = .ok (.iconst 1, 1) := by decide +kernel
theorem dX7_rests_61 : decode cX7_rests 61 = .ok (.iload 6, 2) := by decide +kernel
theorem dX7_rests_63 : decode cX7_rests 63 = .ok (.iconst 2, 1) := by decide +kernel
theorem dX7_rests_64 : decode cX7_rests 64 = .ok (.irem, 1) := by decide +kernel
theorem dX7_rests_65 : decode cX7_rests 65 = .ok (.iadd, 1) := by decide +kernel
theorem dX7_rests_66 : decode cX7_rests 66 = .ok (.istore 8, 2) := by decide +kernel
theorem dX7_rests_68 : decode cX7_rests 68 = .ok (.aload_n 0, 1) := by decide +kernel
theorem dX7_rests_69 : decode cX7_rests 69 = .ok (.iload_n 1, 1) := by decide +kernel
theorem dX7_rests_70 : decode cX7_rests 70 = .ok (.iconst 3, 1) := by decide +kernel
theorem dX7_rests_71 : decode cX7_rests 71 = .ok (.iload 7, 2) := by decide +kernel
theorem dX7_rests_73 : decode cX7_rests 73 = .ok (.isub, 1) := by decide +kernel
theorem dX7_rests_74 : decode cX7_rests 74 = .ok (.iload 8, 2) := by decide +kernel
theorem dX7_rests_76 : decode cX7_rests 76 = .ok (.invokevirtual 242, 3) := by decide +kernel
theorem dX7_rests_79 : decode cX7_rests 79 = .ok (.aload_n 0, 1) := by decide +kernel
theorem dX7_rests_80 : decode cX7_rests 80 = .ok (.iload_n 1, 1) := by decide +kernel
theorem dX7_rests_81 : decode cX7_rests 81 = .ok (.iload 7, 2) := by decide +kernel
theorem dX7_rests_83 : decode cX7_rests 83 = .ok (.iload 8, 2) := by decide +kernel
theorem dX7_rests_85 : decode cX7_rests 85 = .ok (.invokevirtual 242, 3) := by decide +kernel
theorem dX7_rests_88 : decode cX7_rests 88 = .ok (.if_icmp .gt 30, 3) := by decide +kernel
theorem dX7_rests_91 : decode cX7_rests 91 = .ok (.aload_n 0, 1) := by decide +kernel
theorem dX7_rests_92 : decode cX7_rests 92 = .ok (.iload_n 2, 1) := by decide +kernel
theorem dX7_rests_93 : decode cX7_rests 93 = .ok (.iconst 3, 1) := by decide +kernel
theorem dX7_rests_94 : decode cX7_rests 94 = .ok (.iload 8, 2) := by decide +kernel
theorem dX7_rests_96 : decode cX7_rests 96 = .ok (.isub, 1) := by decide +kernel
theorem dX7_rests_97 : decode cX7_rests 97 = .ok (.iload 7, 2) := by decide +kernel
theorem dX7_rests_99 : decode cX7_rests 99 = .ok (.invokevirtual 242, 3) := by decide +kernel
theorem dX7_rests_102 : decode cX7_rests 102 = .ok (.aload_n 0, 1) := by decide +kernel
theorem dX7_rests_103 : decode cX7_rests 103 = .ok (.iload_n 2, 1) := by decide +kernel
theorem dX7_rests_104 : decode cX7_rests 104 = .ok (.iload 8, 2) := by decide +kernel
theorem dX7_rests_106 : decode cX7_rests 106 = .ok (.iload 7, 2) := by decide +kernel
theorem dX7_rests_108 : decode cX7_rests 108 = .ok (.invokevirtual 242, 3) := by decide +kernel
theorem dX7_rests_111 : decode cX7_rests 111 = .ok (.if_icmp .gt 7, 3) := by decide +kernel
theorem dX7_rests_114 : decode cX7_rests 114 = .ok (.iconst 1, 1) := by decide +kernel
theorem dX7_rests_115 : decode cX7_rests 115 = .ok (.goto 4, 3) := by decide +kernel
theorem dX7_rests_118 : decode cX7_rests 118 = .ok (.iconst 0, 1) := by decide +kernel
theorem dX7_rests_119 : decode cX7_rests 119 = .ok (.istore 9, 2) := by decide +kernel
theorem dX7_rests_121 : decode cX7_rests 121 = .ok (.iload 9, 2) := by decide +kernel
theorem dX7_rests_123 : decode cX7_rests 123 = .ok (.ifCond .eq 19, 3) := by decide +kernel
theorem dX7_rests_126 : decode cX7_rests 126 = .ok (.iload 4, 2) := by decide +kernel
theorem dX7_rests_128 : decode cX7_rests 128 = .ok (.ifCond .ne 14, 3) := by decide +kernel
theorem dX7_rests_131 : decode cX7_rests 131 = .ok (.bipush 10, 2) := by decide +kernel
theorem dX7_rests_133 : decode cX7_rests 133 = .ok (.iload 7, 2) := by decide +kernel
theorem dX7_rests_135 : decode cX7_rests 135 = .ok (.imul, 1) := by decide +kernel
theorem dX7_rests_136 : decode cX7_rests 136 = .ok (.iload 8, 2) := by decide +kernel
theorem dX7_rests_138 : decode cX7_rests 138 = .ok (.iadd, 1) := by decide +kernel
theorem dX7_rests_139 : decode cX7_rests 139 = .ok (.goto 5, 3) := by decide +kernel
theorem dX7_rests_142 : decode cX7_rests 142 = .ok (.iload 5, 2) := by decide +kernel
theorem dX7_rests_144 : decode cX7_rests 144 = .ok (.istore 5, 2) := by decide +kernel
theorem dX7_rests_146 : decode cX7_rests 146 = .ok (.iload 4, 2) := by decide +kernel
theorem dX7_rests_148 : decode cX7_rests 148 = .ok (.iload 9, 2) := by decide +kernel
theorem dX7_rests_150 : decode cX7_rests 150 = .ok (.ifCond .eq 7, 3) := by decide +kernel
theorem dX7_rests_153 : decode cX7_rests 153 = .ok (.iconst 1, 1) := by decide +kernel
theorem dX7_rests_154 : decode cX7_rests 154 = .ok (.goto 4, 3) := by decide +kernel
theorem dX7_rests_157 : decode cX7_rests 157 = .ok (.iconst 0, 1) := by decide +kernel
theorem dX7_rests_158 : decode cX7_rests 158 = .ok (.iadd, 1) := by decide +kernel
theorem dX7_rests_159 : decode cX7_rests 159 = .ok (.istore 4, 2) := by decide +kernel
theorem dX7_rests_161 : decode cX7_rests 161 = .ok (.iinc 6 1, 3) := by decide +kernel
theorem dX7_rests_164 : decode cX7_rests 164 = .ok (.goto (-118), 3) := by decide +kernel
theorem dX7_rests_167 : decode cX7_rests 167 = .ok (.iload_n 3, 1) := by decide +kernel
theorem dX7_rests_168 : decode cX7_rests 168 = .ok (.ifCond .ne 8, 3) := by decide +kernel
theorem dX7_rests_171 : decode cX7_rests 171 = .ok (.iload 4, 2) := by decide +kernel
theorem dX7_rests_173 : decode cX7_rests 173 = .ok (.goto 5, 3) := by decide +kernel
theorem dX7_rests_176 : decode cX7_rests 176 = .ok (.iload 5, 2) := by decide +kernel
theorem dX7_rests_178 : decode cX7_rests 178 = .ok (.ireturn, 1) := by decide +kernel
theorem dX7_passes_0 : decode cX7_passes 0 = .ok (.iload_n 1, 1) := by decide +kernel
theorem dX7_passes_1 : decode cX7_passes 1 = .ok (.invokestatic 166, 3) := by decide +kernel
theorem dX7_passes_4 : decode cX7_passes 4 = .ok (.ifCond .eq 10, 3) := by decide +kernel
theorem dX7_passes_7 : decode cX7_passes 7 = .ok (.iload_n 2, 1) := by decide +kernel
theorem dX7_passes_8 : decode cX7_passes 8 = .ok (.invokestatic 166, 3) := by decide +kernel
theorem dX7_passes_11 : decode cX7_passes 11 = .ok (.ifCond .ne 5, 3) := by decide +kernel
theorem dX7_passes_14 : decode cX7_passes 14 = .ok (.iconst (-1), 1) := by decide +kernel
theorem dX7_passes_15 : decode cX7_passes 15 = .ok (.ireturn, 1) := by decide +kernel
theorem dX7_passes_16 : decode cX7_passes 16 = .ok (.iload_n 3, 1) := by decide +kernel
theorem dX7_passes_17 : decode cX7_passes 17 = .ok (.i2l, 1) := by decide +kernel
theorem dX7_passes_18 : decode cX7_passes 18 = .ok (.lconst 0, 1) := by decide +kernel
theorem dX7_passes_19 : decode cX7_passes 19 = .ok (.ldc2_w 245, 3) := by decide +kernel
theorem dX7_passes_22 : decode cX7_passes 22 = .ok (.invokestatic 58, 3) := by decide +kernel
theorem dX7_passes_25 : decode cX7_passes 25 = .ok (.ifCond .ne 6, 3) := by decide +kernel
theorem dX7_passes_28 : decode cX7_passes 28 = .ok (.bipush (-2), 2) := by decide +kernel
theorem dX7_passes_30 : decode cX7_passes 30 = .ok (.ireturn, 1) := by decide +kernel
theorem dX7_passes_31 : decode cX7_passes 31 = .ok (.iconst 0, 1) := by decide +kernel
theorem dX7_passes_32 : decode cX7_passes 32 = .ok (.istore 5, 2) := by decide +kernel
theorem dX7_passes_34 : decode cX7_passes 34 = .ok (.iconst 0, 1) := by decide +kernel
theorem dX7_passes_35 : decode cX7_passes 35 = .ok (.istore 6, 2) := by decide +kernel
theorem dX7_passes_37 : decode cX7_passes 37 = .ok (.iconst 0, 1) := by decide +kernel
theorem dX7_passes_38 : decode cX7_passes 38 = .ok (.istore 7, 2) := by decide +kernel
theorem dX7_passes_40 : decode cX7_passes 40 = .ok (.iload 7, 2) := by decide +kernel
theorem dX7_passes_42 : decode cX7_passes 42 = .ok (.iconst 1, 1) := by decide +kernel
theorem dX7_passes_43 : decode cX7_passes 43 = .ok (.aload_n 0, 1) := by decide +kernel
theorem dX7_passes_44 : decode cX7_passes 44 = .ok (.getfield 106, 3) := by decide +kernel
theorem dX7_passes_47 : decode cX7_passes 47 = .ok (.ishl, 1) := by decide +kernel
theorem dX7_passes_48 : decode cX7_passes 48 = .ok (.if_icmp .ge 123, 3) := by decide +kernel
theorem dX7_passes_51 : decode cX7_passes 51 = .ok (.iconst 1, 1) := by decide +kernel
theorem dX7_passes_52 : decode cX7_passes 52 = .ok (.istore 8, 2) := by decide +kernel
theorem dX7_passes_54 : decode cX7_passes 54 = .ok (.aload_n 0, 1) := by decide +kernel
theorem dX7_passes_55 : decode cX7_passes 55 = .ok (.iconst 0, 1) := by decide +kernel
theorem dX7_passes_56 : decode cX7_passes 56 = .ok (.bipush 8, 2) := by decide +kernel
theorem dX7_passes_58 : decode cX7_passes 58 = .ok (.invokevirtual 119, 3) := by decide +kernel
theorem dX7_passes_61 : decode cX7_passes 61 = .ok (.istore 9, 2) := by decide +kernel
theorem dX7_passes_63 : decode cX7_passes 63 = .ok (.iconst 0, 1) := by decide +kernel
theorem dX7_passes_64 : decode cX7_passes 64 = .ok (.istore 10, 2) := by decide +kernel
theorem dX7_passes_66 : decode cX7_passes 66 = .ok (.iload 10, 2) := by decide +kernel
theorem dX7_passes_68 : decode cX7_passes 68 = .ok (.aload_n 0, 1) := by decide +kernel
theorem dX7_passes_69 : decode cX7_passes 69 = .ok (.getfield 106, 3) := by decide +kernel
theorem dX7_passes_72 : decode cX7_passes 72 = .ok (.if_icmp .ge 58, 3) := by decide +kernel
theorem dX7_passes_75 : decode cX7_passes 75 = .ok (.iload 8, 2) := by decide +kernel
theorem dX7_passes_77 : decode cX7_passes 77 = .ok (.iload 7, 2) := by decide +kernel
theorem dX7_passes_79 : decode cX7_passes 79 = .ok (.iload 10, 2) := by decide +kernel
theorem dX7_passes_81 : decode cX7_passes 81 = .ok (.invokestatic 74, 3) := by decide +kernel
theorem dX7_passes_84 : decode cX7_passes 84 = .ok (.ifCond .eq 7, 3) := by decide +kernel
theorem dX7_passes_87 : decode cX7_passes 87 = .ok (.iload_n 3, 1) := by decide +kernel
theorem dX7_passes_88 : decode cX7_passes 88 = .ok (.goto 7, 3) := by decide +kernel
theorem dX7_passes_91 : decode cX7_passes 91 = .ok (.bipush 10, 2) := by decide +kernel
theorem dX7_passes_93 : decode cX7_passes 93 = .ok (.iload_n 3, 1) := by decide +kernel
theorem dX7_passes_94 : decode cX7_passes 94 = .ok (.isub, 1) := by decide +kernel
theorem dX7_passes_95 : decode cX7_passes 95 = .ok (.imul, 1) := by decide +kernel
theorem dX7_passes_96 : decode cX7_passes 96 = .ok (.istore 8, 2) := by decide +kernel
theorem dX7_passes_98 : decode cX7_passes 98 = .ok (.iload 9, 2) := by decide +kernel
theorem dX7_passes_100 : decode cX7_passes 100 = .ok (.iload 7, 2) := by decide +kernel
theorem dX7_passes_102 : decode cX7_passes 102 = .ok (.iload 10, 2) := by decide +kernel
theorem dX7_passes_104 : decode cX7_passes 104 = .ok (.invokestatic 74, 3) := by decide +kernel
theorem dX7_passes_107 : decode cX7_passes 107 = .ok (.ifCond .eq 7, 3) := by decide +kernel
theorem dX7_passes_110 : decode cX7_passes 110 = .ok (.iconst 0, 1) := by decide +kernel
theorem dX7_passes_111 : decode cX7_passes 111 = .ok (.goto 10, 3) := by decide +kernel
theorem dX7_passes_114 : decode cX7_passes 114 = .ok (.aload_n 0, 1) := by decide +kernel
theorem dX7_passes_115 : decode cX7_passes 115 = .ok (.iconst 0, 1) := by decide +kernel
theorem dX7_passes_116 : decode cX7_passes 116 = .ok (.iload 10, 2) := by decide +kernel
theorem dX7_passes_118 : decode cX7_passes 118 = .ok (.invokevirtual 119, 3) := by decide +kernel
theorem dX7_passes_121 : decode cX7_passes 121 = .ok (.ior, 1) := by decide +kernel
theorem dX7_passes_122 : decode cX7_passes 122 = .ok (.istore 9, 2) := by decide +kernel
theorem dX7_passes_124 : decode cX7_passes 124 = .ok (.iinc 10 1, 3) := by decide +kernel
theorem dX7_passes_127 : decode cX7_passes 127 = .ok (.goto (-61), 3) := by decide +kernel
theorem dX7_passes_130 : decode cX7_passes 130 = .ok (.iload 6, 2) := by decide +kernel
theorem dX7_passes_132 : decode cX7_passes 132 = .ok (.iload 8, 2) := by decide +kernel
theorem dX7_passes_134 : decode cX7_passes 134 = .ok (.iadd, 1) := by decide +kernel
theorem dX7_passes_135 : decode cX7_passes 135 = .ok (.istore 6, 2) := by decide +kernel
theorem dX7_passes_137 : decode cX7_passes 137 = .ok (.iload 5, 2) := by decide +kernel
theorem dX7_passes_139 : decode cX7_passes 139 = .ok (.iload_n 1, 1) := by decide +kernel
theorem dX7_passes_140 : decode cX7_passes 140 = .ok (.iload_n 2, 1) := by decide +kernel
theorem dX7_passes_141 : decode cX7_passes 141 = .ok (.if_icmp .eq 15, 3) := by decide +kernel
theorem dX7_passes_144 : decode cX7_passes 144 = .ok (.iload_n 1, 1) := by decide +kernel
theorem dX7_passes_145 : decode cX7_passes 145 = .ok (.iload_n 2, 1) := by decide +kernel
theorem dX7_passes_146 : decode cX7_passes 146 = .ok (.iload 9, 2) := by decide +kernel
theorem dX7_passes_148 : decode cX7_passes 148 = .ok (.invokestatic 194, 3) := by decide +kernel
theorem dX7_passes_151 : decode cX7_passes 151 = .ok (.bipush (-9), 2) := by decide +kernel
theorem dX7_passes_153 : decode cX7_passes 153 = .ok (.if_icmp .eq 8, 3) := by decide +kernel
theorem dX7_passes_156 : decode cX7_passes 156 = .ok (.iload 8, 2) := by decide +kernel
theorem dX7_passes_158 : decode cX7_passes 158 = .ok (.goto 4, 3) := by decide +kernel
theorem dX7_passes_161 : decode cX7_passes 161 = .ok (.iconst 0, 1) := by decide +kernel
theorem dX7_passes_162 : decode cX7_passes 162 = .ok (.iadd, 1) := by decide +kernel
theorem dX7_passes_163 : decode cX7_passes 163 = .ok (.istore 5, 2) := by decide +kernel
theorem dX7_passes_165 : decode cX7_passes 165 = .ok (.iinc 7 1, 3) := by decide +kernel
theorem dX7_passes_168 : decode cX7_passes 168 = .ok (.goto (-128), 3) := by decide +kernel
theorem dX7_passes_171 : decode cX7_passes 171 = .ok (.iload 5, 2) := by decide +kernel
theorem dX7_passes_173 : decode cX7_passes 173 = .ok (.iload 6, 2) := by decide +kernel
theorem dX7_passes_175 : decode cX7_passes 175 = .ok (.invokestatic 236, 3) := by decide +kernel
theorem dX7_passes_178 : decode cX7_passes 178 = .ok (.istore 7, 2) := by decide +kernel
theorem dX7_passes_180 : decode cX7_passes 180 = .ok (.iload 4, 2) := by decide +kernel
theorem dX7_passes_182 : decode cX7_passes 182 = .ok (.ifCond .eq 11, 3) := by decide +kernel
theorem dX7_passes_185 : decode cX7_passes 185 = .ok (.iload 5, 2) := by decide +kernel
theorem dX7_passes_187 : decode cX7_passes 187 = .ok (.iload 7, 2) := by decide +kernel
theorem dX7_passes_189 : decode cX7_passes 189 = .ok (.idiv, 1) := by decide +kernel
theorem dX7_passes_190 : decode cX7_passes 190 = .ok (.goto 8, 3) := by decide +kernel
theorem dX7_passes_193 : decode cX7_passes 193 = .ok (.iload 6, 2) := by decide +kernel
theorem dX7_passes_195 : decode cX7_passes 195 = .ok (.iload 7, 2) := by decide +kernel
theorem dX7_passes_197 : decode cX7_passes 197 = .ok (.idiv, 1) := by decide +kernel
theorem dX7_passes_198 : decode cX7_passes 198 = .ok (.ireturn, 1) := by decide +kernel
theorem dX7_seed_0 : decode cX7_seed 0 = .ok (.aload_n 0, 1) := by decide +kernel
theorem dX7_seed_1 : decode cX7_seed 1 = .ok (.getfield 247, 3) := by decide +kernel
theorem dX7_seed_4 : decode cX7_seed 4 = .ok (.lstore_n 3, 1) := by decide +kernel
theorem dX7_seed_5 : decode cX7_seed 5 = .ok (.aload_n 0, 1) := by decide +kernel
theorem dX7_seed_6 : decode cX7_seed 6 = .ok (.lload_n 1, 1) := by decide +kernel
theorem dX7_seed_7 : decode cX7_seed 7 = .ok (.putfield 247, 3) := by decide +kernel
theorem dX7_seed_10 : decode cX7_seed 10 = .ok (.lload_n 3, 1) := by decide +kernel
theorem dX7_seed_11 : decode cX7_seed 11 = .ok (.lreturn, 1) := by decide +kernel
theorem dX7_years_0 : decode cX7_years 0 = .ok (.iload_n 1, 1) := by decide +kernel
theorem dX7_years_1 : decode cX7_years 1 = .ok (.i2l, 1) := by decide +kernel
theorem dX7_years_2 : decode cX7_years 2 = .ok (.lconst 1, 1) := by decide +kernel
theorem dX7_years_3 : decode cX7_years 3 = .ok (.ldc2_w 251, 3) := by decide +kernel
theorem dX7_years_6 : decode cX7_years 6 = .ok (.invokestatic 58, 3) := by decide +kernel
theorem dX7_years_9 : decode cX7_years 9 = .ok (.ifCond .ne 6, 3) := by decide +kernel
theorem dX7_years_12 : decode cX7_years 12 = .ok (.bipush (-2), 2) := by decide +kernel
theorem dX7_years_14 : decode cX7_years 14 = .ok (.ireturn, 1) := by decide +kernel
theorem dX7_years_15 : decode cX7_years 15 = .ok (.aload_n 0, 1) := by decide +kernel
theorem dX7_years_16 : decode cX7_years 16 = .ok (.invokevirtual 203, 3) := by decide +kernel
theorem dX7_years_19 : decode cX7_years 19 = .ok (.iconst 0, 1) := by decide +kernel
theorem dX7_years_20 : decode cX7_years 20 = .ok (.istore_n 2, 1) := by decide +kernel
theorem dX7_years_21 : decode cX7_years 21 = .ok (.iload_n 2, 1) := by decide +kernel
theorem dX7_years_22 : decode cX7_years 22 = .ok (.iload_n 1, 1) := by decide +kernel
theorem dX7_years_23 : decode cX7_years 23 = .ok (.if_icmp .ge 71, 3) := by decide +kernel
theorem dX7_years_26 : decode cX7_years 26 = .ok (.aload_n 0, 1) := by decide +kernel
theorem dX7_years_27 : decode cX7_years 27 = .ok (.aload_n 0, 1) := by decide +kernel
theorem dX7_years_28 : decode cX7_years 28 = .ok (.getfield 247, 3) := by decide +kernel
theorem dX7_years_31 : decode cX7_years 31 = .ok (.ldc2_w 253, 3) := by decide +kernel
theorem dX7_years_34 : decode cX7_years 34 = .ok (.lmul, 1) := by decide +kernel
theorem dX7_years_35 : decode cX7_years 35 = .ok (.ldc2_w 255, 3) := by decide +kernel
theorem dX7_years_38 : decode cX7_years 38 = .ok (.ladd, 1) := by decide +kernel
theorem dX7_years_39 : decode cX7_years 39 = .ok (.putfield 247, 3) := by decide +kernel
theorem dX7_years_42 : decode cX7_years 42 = .ok (.aload_n 0, 1) := by decide +kernel
theorem dX7_years_43 : decode cX7_years 43 = .ok (.getfield 247, 3) := by decide +kernel
theorem dX7_years_46 : decode cX7_years 46 = .ok (.bipush 33, 2) := by decide +kernel
theorem dX7_years_48 : decode cX7_years 48 = .ok (.lushr, 1) := by decide +kernel
theorem dX7_years_49 : decode cX7_years 49 = .ok (.ldc2_w 257, 3) := by decide +kernel
theorem dX7_years_52 : decode cX7_years 52 = .ok (.lrem, 1) := by decide +kernel
theorem dX7_years_53 : decode cX7_years 53 = .ok (.l2i, 1) := by decide +kernel
theorem dX7_years_54 : decode cX7_years 54 = .ok (.istore_n 3, 1) := by decide +kernel
theorem dX7_years_55 : decode cX7_years 55 = .ok (.iload_n 3, 1) := by decide +kernel
theorem dX7_years_56 : decode cX7_years 56 = .ok (.bipush 19, 2) := by decide +kernel
theorem dX7_years_58 : decode cX7_years 58 = .ok (.if_icmp .le 12, 3) := by decide +kernel
theorem dX7_years_61 : decode cX7_years 61 = .ok (.aload_n 0, 1) := by decide +kernel
theorem dX7_years_62 : decode cX7_years 62 = .ok (.iconst 1, 1) := by decide +kernel
theorem dX7_years_63 : decode cX7_years 63 = .ok (.invokevirtual 175, 3) := by decide +kernel
theorem dX7_years_66 : decode cX7_years 66 = .ok (.pop, 1) := by decide +kernel
theorem dX7_years_67 : decode cX7_years 67 = .ok (.goto 21, 3) := by decide +kernel
theorem dX7_years_70 : decode cX7_years 70 = .ok (.aload_n 0, 1) := by decide +kernel
theorem dX7_years_71 : decode cX7_years 71 = .ok (.iconst 1, 1) := by decide +kernel
theorem dX7_years_72 : decode cX7_years 72 = .ok (.iconst 0, 1) := by decide +kernel
theorem dX7_years_73 : decode cX7_years 73 = .ok (.iload_n 3, 1) := by decide +kernel
theorem dX7_years_74 : decode cX7_years 74 = .ok (.invokevirtual 178, 3) := by decide +kernel
theorem dX7_years_77 : decode cX7_years 77 = .ok (.ifCond .eq 11, 3) := by decide +kernel
theorem dX7_years_80 : decode cX7_years 80 = .ok (.aload_n 0, 1) := by decide +kernel
theorem dX7_years_81 : decode cX7_years 81 = .ok (.iconst 1, 1) := by decide +kernel
theorem dX7_years_82 : decode cX7_years 82 = .ok (.iconst 0, 1) := by decide +kernel
theorem dX7_years_83 : decode cX7_years 83 = .ok (.iload_n 3, 1) := by decide +kernel
theorem dX7_years_84 : decode cX7_years 84 = .ok (.invokevirtual 182, 3) := by decide +kernel
theorem dX7_years_87 : decode cX7_years 87 = .ok (.pop, 1) := by decide +kernel
theorem dX7_years_88 : decode cX7_years 88 = .ok (.iinc 2 1, 3) := by decide +kernel
theorem dX7_years_91 : decode cX7_years 91 = .ok (.goto (-70), 3) := by decide +kernel
theorem dX7_years_94 : decode cX7_years 94 = .ok (.bipush 20, 2) := by decide +kernel
theorem dX7_years_96 : decode cX7_years 96 = .ok (.aload_n 0, 1) := by decide +kernel
theorem dX7_years_97 : decode cX7_years 97 = .ok (.iconst 1, 1) := by decide +kernel
theorem dX7_years_98 : decode cX7_years 98 = .ok (.bipush 7, 2) := by decide +kernel
theorem dX7_years_100 : decode cX7_years 100 = .ok (.invokevirtual 119, 3) := by decide +kernel
theorem dX7_years_103 : decode cX7_years 103 = .ok (.aload_n 0, 1) := by decide +kernel
theorem dX7_years_104 : decode cX7_years 104 = .ok (.iconst 1, 1) := by decide +kernel
theorem dX7_years_105 : decode cX7_years 105 = .ok (.bipush 8, 2) := by decide +kernel
theorem dX7_years_107 : decode cX7_years 107 = .ok (.invokevirtual 119, 3) := by decide +kernel
theorem dX7_years_110 : decode cX7_years 110 = .ok (.ior, 1) := by decide +kernel
theorem dX7_years_111 : decode cX7_years 111 = .ok (.invokestatic 137, 3) := by decide +kernel
theorem dX7_years_114 : decode cX7_years 114 = .ok (.isub, 1) := by decide +kernel
theorem dX7_years_115 : decode cX7_years 115 = .ok (.ireturn, 1) := by decide +kernel
theorem dX7_keep_0 : decode cX7_keep 0 = .ok (.iload_n 1, 1) := by decide +kernel
theorem dX7_keep_1 : decode cX7_keep 1 = .ok (.i2l, 1) := by decide +kernel
theorem dX7_keep_2 : decode cX7_keep 2 = .ok (.lconst 0, 1) := by decide +kernel
theorem dX7_keep_3 : decode cX7_keep 3 = .ok (.lconst 1, 1) := by decide +kernel
theorem dX7_keep_4 : decode cX7_keep 4 = .ok (.invokestatic 58, 3) := by decide +kernel
theorem dX7_keep_7 : decode cX7_keep 7 = .ok (.ifCond .ne 5, 3) := by decide +kernel
theorem dX7_keep_10 : decode cX7_keep 10 = .ok (.iconst (-1), 1) := by decide +kernel
theorem dX7_keep_11 : decode cX7_keep 11 = .ok (.ireturn, 1) := by decide +kernel
theorem dX7_keep_12 : decode cX7_keep 12 = .ok (.aload_n 0, 1) := by decide +kernel
theorem dX7_keep_13 : decode cX7_keep 13 = .ok (.getfield 49, 3) := by decide +kernel
theorem dX7_keep_16 : decode cX7_keep 16 = .ok (.iload_n 1, 1) := by decide +kernel
theorem dX7_keep_17 : decode cX7_keep 17 = .ok (.iconst 1, 1) := by decide +kernel
theorem dX7_keep_18 : decode cX7_keep 18 = .ok (.bastore, 1) := by decide +kernel
theorem dX7_keep_19 : decode cX7_keep 19 = .ok (.iconst 0, 1) := by decide +kernel
theorem dX7_keep_20 : decode cX7_keep 20 = .ok (.istore_n 2, 1) := by decide +kernel
theorem dX7_keep_21 : decode cX7_keep 21 = .ok (.iload_n 2, 1) := by decide +kernel
theorem dX7_keep_22 : decode cX7_keep 22 = .ok (.bipush 35, 2) := by decide +kernel
theorem dX7_keep_24 : decode cX7_keep 24 = .ok (.if_icmp .ge 26, 3) := by decide +kernel
theorem dX7_keep_27 : decode cX7_keep 27 = .ok (.aload_n 0, 1) := by decide +kernel
theorem dX7_keep_28 : decode cX7_keep 28 = .ok (.getfield 53, 3) := by decide +kernel
theorem dX7_keep_31 : decode cX7_keep 31 = .ok (.bipush 35, 2) := by decide +kernel
theorem dX7_keep_33 : decode cX7_keep 33 = .ok (.iload_n 1, 1) := by decide +kernel
theorem dX7_keep_34 : decode cX7_keep 34 = .ok (.imul, 1) := by decide +kernel
theorem dX7_keep_35 : decode cX7_keep 35 = .ok (.iload_n 2, 1) := by decide +kernel
theorem dX7_keep_36 : decode cX7_keep 36 = .ok (.iadd, 1) := by decide +kernel
theorem dX7_keep_37 : decode cX7_keep 37 = .ok (.aload_n 0, 1) := by decide +kernel
theorem dX7_keep_38 : decode cX7_keep 38 = .ok (.getfield 19, 3) := by decide +kernel
theorem dX7_keep_41 : decode cX7_keep 41 = .ok (.iload_n 2, 1) := by decide +kernel
theorem dX7_keep_42 : decode cX7_keep 42 = .ok (.iaload, 1) := by decide +kernel
theorem dX7_keep_43 : decode cX7_keep 43 = .ok (.iastore, 1) := by decide +kernel
theorem dX7_keep_44 : decode cX7_keep 44 = .ok (.iinc 2 1, 3) := by decide +kernel
theorem dX7_keep_47 : decode cX7_keep 47 = .ok (.goto (-26), 3) := by decide +kernel
theorem dX7_keep_50 : decode cX7_keep 50 = .ok (.aload_n 0, 1) := by decide +kernel
theorem dX7_keep_51 : decode cX7_keep 51 = .ok (.getfield 19, 3) := by decide +kernel
theorem dX7_keep_54 : decode cX7_keep 54 = .ok (.bipush 34, 2) := by decide +kernel
theorem dX7_keep_56 : decode cX7_keep 56 = .ok (.iaload, 1) := by decide +kernel
theorem dX7_keep_57 : decode cX7_keep 57 = .ok (.ireturn, 1) := by decide +kernel
theorem dX7_again_0 : decode cX7_again 0 = .ok (.iload_n 1, 1) := by decide +kernel
theorem dX7_again_1 : decode cX7_again 1 = .ok (.i2l, 1) := by decide +kernel
theorem dX7_again_2 : decode cX7_again 2 = .ok (.lconst 0, 1) := by decide +kernel
theorem dX7_again_3 : decode cX7_again 3 = .ok (.lconst 1, 1) := by decide +kernel
theorem dX7_again_4 : decode cX7_again 4 = .ok (.invokestatic 58, 3) := by decide +kernel
theorem dX7_again_7 : decode cX7_again 7 = .ok (.ifCond .ne 5, 3) := by decide +kernel
theorem dX7_again_10 : decode cX7_again 10 = .ok (.iconst (-1), 1) := by decide +kernel
theorem dX7_again_11 : decode cX7_again 11 = .ok (.ireturn, 1) := by decide +kernel
theorem dX7_again_12 : decode cX7_again 12 = .ok (.aload_n 0, 1) := by decide +kernel
theorem dX7_again_13 : decode cX7_again 13 = .ok (.getfield 49, 3) := by decide +kernel
theorem dX7_again_16 : decode cX7_again 16 = .ok (.iload_n 1, 1) := by decide +kernel
theorem dX7_again_17 : decode cX7_again 17 = .ok (.baload, 1) := by decide +kernel
theorem dX7_again_18 : decode cX7_again 18 = .ok (.ifCond .ne 6, 3) := by decide +kernel
theorem dX7_again_21 : decode cX7_again 21 = .ok (.bipush (-3), 2) := by decide +kernel
theorem dX7_again_23 : decode cX7_again 23 = .ok (.ireturn, 1) := by decide +kernel
theorem dX7_again_24 : decode cX7_again 24 = .ok (.iconst 0, 1) := by decide +kernel
theorem dX7_again_25 : decode cX7_again 25 = .ok (.istore_n 2, 1) := by decide +kernel
theorem dX7_again_26 : decode cX7_again 26 = .ok (.iload_n 2, 1) := by decide +kernel
theorem dX7_again_27 : decode cX7_again 27 = .ok (.bipush 35, 2) := by decide +kernel
theorem dX7_again_29 : decode cX7_again 29 = .ok (.if_icmp .ge 26, 3) := by decide +kernel
theorem dX7_again_32 : decode cX7_again 32 = .ok (.aload_n 0, 1) := by decide +kernel
theorem dX7_again_33 : decode cX7_again 33 = .ok (.getfield 19, 3) := by decide +kernel
theorem dX7_again_36 : decode cX7_again 36 = .ok (.iload_n 2, 1) := by decide +kernel
theorem dX7_again_37 : decode cX7_again 37 = .ok (.aload_n 0, 1) := by decide +kernel
theorem dX7_again_38 : decode cX7_again 38 = .ok (.getfield 53, 3) := by decide +kernel
theorem dX7_again_41 : decode cX7_again 41 = .ok (.bipush 35, 2) := by decide +kernel
theorem dX7_again_43 : decode cX7_again 43 = .ok (.iload_n 1, 1) := by decide +kernel
theorem dX7_again_44 : decode cX7_again 44 = .ok (.imul, 1) := by decide +kernel
theorem dX7_again_45 : decode cX7_again 45 = .ok (.iload_n 2, 1) := by decide +kernel
theorem dX7_again_46 : decode cX7_again 46 = .ok (.iadd, 1) := by decide +kernel
theorem dX7_again_47 : decode cX7_again 47 = .ok (.iaload, 1) := by decide +kernel
theorem dX7_again_48 : decode cX7_again 48 = .ok (.iastore, 1) := by decide +kernel
theorem dX7_again_49 : decode cX7_again 49 = .ok (.iinc 2 1, 3) := by decide +kernel
theorem dX7_again_52 : decode cX7_again 52 = .ok (.goto (-26), 3) := by decide +kernel
theorem dX7_again_55 : decode cX7_again 55 = .ok (.aload_n 0, 1) := by decide +kernel
theorem dX7_again_56 : decode cX7_again 56 = .ok (.iconst 0, 1) := by decide +kernel
theorem dX7_again_57 : decode cX7_again 57 = .ok (.putfield 109, 3) := by decide +kernel
theorem dX7_again_60 : decode cX7_again 60 = .ok (.aload_n 0, 1) := by decide +kernel
theorem dX7_again_61 : decode cX7_again 61 = .ok (.getfield 19, 3) := by decide +kernel
theorem dX7_again_64 : decode cX7_again 64 = .ok (.bipush 34, 2) := by decide +kernel
theorem dX7_again_66 : decode cX7_again 66 = .ok (.iaload, 1) := by decide +kernel
theorem dX7_again_67 : decode cX7_again 67 = .ok (.ireturn, 1) := by decide +kernel
theorem dX7_count_0 : decode cX7_count 0 = .ok (.iload_n 1, 1) := by decide +kernel
theorem dX7_count_1 : decode cX7_count 1 = .ok (.tableswitch 121 0 8 #[51, 56, 61, 66, 74, 97, 105, 111, 116], 51) := by decide +kernel
theorem dX7_count_52 : decode cX7_count 52 = .ok (.aload_n 0, 1) := by decide +kernel
theorem dX7_count_53 : decode cX7_count 53 = .ok (.getfield 62, 3) := by decide +kernel
theorem dX7_count_56 : decode cX7_count 56 = .ok (.ireturn, 1) := by decide +kernel
theorem dX7_count_57 : decode cX7_count 57 = .ok (.aload_n 0, 1) := by decide +kernel
theorem dX7_count_58 : decode cX7_count 58 = .ok (.getfield 103, 3) := by decide +kernel
theorem dX7_count_61 : decode cX7_count 61 = .ok (.ireturn, 1) := by decide +kernel
theorem dX7_count_62 : decode cX7_count 62 = .ok (.aload_n 0, 1) := by decide +kernel
theorem dX7_count_63 : decode cX7_count 63 = .ok (.getfield 106, 3) := by decide +kernel
theorem dX7_count_66 : decode cX7_count 66 = .ok (.ireturn, 1) := by decide +kernel
theorem dX7_count_67 : decode cX7_count 67 = .ok (.aload_n 0, 1) := by decide +kernel
theorem dX7_count_68 : decode cX7_count 68 = .ok (.getfield 19, 3) := by decide +kernel
theorem dX7_count_71 : decode cX7_count 71 = .ok (.bipush 34, 2) := by decide +kernel
theorem dX7_count_73 : decode cX7_count 73 = .ok (.iaload, 1) := by decide +kernel
theorem dX7_count_74 : decode cX7_count 74 = .ok (.ireturn, 1) := by decide +kernel
theorem dX7_count_75 : decode cX7_count 75 = .ok (.ldc 98, 2) := by decide +kernel
theorem dX7_count_77 : decode cX7_count 77 = .ok (.aload_n 0, 1) := by decide +kernel
theorem dX7_count_78 : decode cX7_count 78 = .ok (.iconst 0, 1) := by decide +kernel
theorem dX7_count_79 : decode cX7_count 79 = .ok (.bipush 7, 2) := by decide +kernel
theorem dX7_count_81 : decode cX7_count 81 = .ok (.invokevirtual 119, 3) := by decide +kernel
theorem dX7_count_84 : decode cX7_count 84 = .ok (.iconst (-1), 1) := by decide +kernel
theorem dX7_count_85 : decode cX7_count 85 = .ok (.ixor, 1) := by decide +kernel
theorem dX7_count_86 : decode cX7_count 86 = .ok (.iand, 1) := by decide +kernel
theorem dX7_count_87 : decode cX7_count 87 = .ok (.aload_n 0, 1) := by decide +kernel
theorem dX7_count_88 : decode cX7_count 88 = .ok (.iconst 0, 1) := by decide +kernel
theorem dX7_count_89 : decode cX7_count 89 = .ok (.bipush 8, 2) := by decide +kernel
theorem dX7_count_91 : decode cX7_count 91 = .ok (.invokevirtual 119, 3) := by decide +kernel
theorem dX7_count_94 : decode cX7_count 94 = .ok (.iconst (-1), 1) := by decide +kernel
theorem dX7_count_95 : decode cX7_count 95 = .ok (.ixor, 1) := by decide +kernel
theorem dX7_count_96 : decode cX7_count 96 = .ok (.iand, 1) := by decide +kernel
theorem dX7_count_97 : decode cX7_count 97 = .ok (.ireturn, 1) := by decide +kernel
theorem dX7_count_98 : decode cX7_count 98 = .ok (.aload_n 0, 1) := by decide +kernel
theorem dX7_count_99 : decode cX7_count 99 = .ok (.iconst 0, 1) := by decide +kernel
theorem dX7_count_100 : decode cX7_count 100 = .ok (.bipush 8, 2) := by decide +kernel
theorem dX7_count_102 : decode cX7_count 102 = .ok (.invokevirtual 119, 3) := by decide +kernel
theorem dX7_count_105 : decode cX7_count 105 = .ok (.ireturn, 1) := by decide +kernel
theorem dX7_count_106 : decode cX7_count 106 = .ok (.aload_n 0, 1) := by decide +kernel
theorem dX7_count_107 : decode cX7_count 107 = .ok (.iconst 0, 1) := by decide +kernel
theorem dX7_count_108 : decode cX7_count 108 = .ok (.invokevirtual 208, 3) := by decide +kernel
theorem dX7_count_111 : decode cX7_count 111 = .ok (.ireturn, 1) := by decide +kernel
theorem dX7_count_112 : decode cX7_count 112 = .ok (.aload_n 0, 1) := by decide +kernel
theorem dX7_count_113 : decode cX7_count 113 = .ok (.getfield 109, 3) := by decide +kernel
theorem dX7_count_116 : decode cX7_count 116 = .ok (.ireturn, 1) := by decide +kernel
theorem dX7_count_117 : decode cX7_count 117 = .ok (.aload_n 0, 1) := by decide +kernel
theorem dX7_count_118 : decode cX7_count 118 = .ok (.getfield 224, 3) := by decide +kernel
theorem dX7_count_121 : decode cX7_count 121 = .ok (.ireturn, 1) := by decide +kernel
theorem dX7_count_122 : decode cX7_count 122 = .ok (.bipush (-2), 2) := by decide +kernel
theorem dX7_count_124 : decode cX7_count 124 = .ok (.ireturn, 1) := by decide +kernel
def wp_X7_gain (p0 : Int32) (p1 : Int32) (p2 : Int32) (s0 : CS) (Q : Int32 → Prop) : Prop := ((p2 ≤ p1 → ((p1 ≤ p2 → Q p1) ∧ (¬ p1 ≤ p2 → Q (0 : Int32)))) ∧ (¬ p2 ≤ p1 → wp_X7_holeCells p0 s0 (fun r_3 => Q r_3)))
set_option maxHeartbeats 4000000 in
set_option maxRecDepth 100000 in
theorem c_X7_gain (l : Launch) (D : va_G) (cI cZ cW : ClassId) (q0 : Nat → Nat) (p0 : Int32) (p1 : Int32) (p2 : Int32) (s0 : CS) (Q : Int32 → Prop) (hf : wp_X7_gain p0 p1 p2 s0 Q) : Met l yX7_gain (wsA yX7_gain cX7_gain 4 (some .int)) ({ frames := 2, cells := 0, slots := 0, locals := 47 }) (PR D cI cZ cW [.ref (q0 0), .int p0, .int p1, .int p2] (wM cI cZ q0 s0)) (vp_Si Q) 0 0 (fun _ => False) := by
  refine Met.ofW (cc := cX7_gain) (maxL := 4) (ret := (some .int)) (by decide) rfl ?_
  intro p e s m args below meth c s₁ B hml hv
  obtain ⟨rfl, hP, hK⟩ := hv
  have hx := B.exec
  have hb := B.bytes
  have hr := B.returns
  have hts := atoms_spec (ws := (wsA yX7_gain cX7_gain 4 (some .int))) B.pre
  have ht : ∀ w ∈ lw_g, w.before _ s = true := fun w h => hts w (List.mem_cons_of_mem _ h)
  have hown : s.vm.findClass RX7 = some m.cls := findClass_of_methodNamed B.named
  have hlocks := B.notSynchronized
  have hl := lv_entry ([.ref (q0 0), .int p0, .int p1, .int p2]) (n := 4) (Nat.le_of_ble_eq_true rfl)
  rw [lg_entry_eq]
  generalize (lg_sl ([.ref (q0 0), .int p0, .int p1, .int p2]) ++ List.replicate (4 - (lg_sl ([.ref (q0 0), .int p0, .int p1, .int p2])).length) Slot.unset).toArray = ls at hl ⊢
  have hl : lv_has ls 4 [(0, .ref (q0 0)), (1, .int p0), (2, .int p1), (3, .int p2)] := hl
  unfold wp_X7_gain at hf
  refine lv_iload_n hx hb dX7_gain_0 rfl (lv_at hl 2 rfl) ?_
  refine lv_iload_n hx hb dX7_gain_1 rfl (lv_at hl 3 rfl) ?_
  refine lv_icmp_ge (tgt := 13) hx hb dX7_gain_2 (by decide) (fun c_1 => ?_) (fun c_1 => ?_)
  · have hf := hf.1 c_1
    refine lv_iload_n hx hb dX7_gain_13 rfl (lv_at hl 2 rfl) ?_
    refine lv_iload_n hx hb dX7_gain_14 rfl (lv_at hl 3 rfl) ?_
    refine lv_icmp_le (tgt := 22) hx hb dX7_gain_15 (by decide) (fun c_2 => ?_) (fun c_2 => ?_)
    · have hf := hf.1 c_2
      refine lv_iload_n hx hb dX7_gain_22 rfl (lv_at hl 2 rfl) ?_
      exact W.iret (v := p1) hx hb hr (fun t ht hW => ⟨p1, rfl, hf, ht⟩) (fun q h => absurd h List.not_mem_nil) dX7_gain_23
    · have hf := hf.2 c_2
      refine lv_iconst (v := (0 : Int32)) hx hb dX7_gain_18 (by decide) ?_
      refine lv_goto (tgt := 23) hx hb dX7_gain_19 (by decide) ?_
      exact W.iret (v := (0 : Int32)) hx hb hr (fun t ht hW => ⟨(0 : Int32), rfl, hf, ht⟩) (fun q h => absurd h List.not_mem_nil) dX7_gain_23
  · have hf := hf.2 c_1
    refine lv_aload_n hx hb dX7_gain_5 rfl (lv_at hl 0 rfl) ?_
    refine lv_iload_n hx hb dX7_gain_6 rfl (lv_at hl 1 rfl) ?_
    have hPc : va_P D classes (wM cI cZ q0 s0) s.heap := hP
    refine vp_callSi (W.runV (As := [.int p0]) (rest := []) ⟨hx, hb, hml, hown, hts⟩ (c_X7_holeCells l D cI cZ cW q0 p0 s0 _ hf) ⟨callB_of 1 hts (gA tw_996) rfl rfl rfl (ht _ tw_7) (ht _ tw_993) hd_X7_holeCells ⟨Nat.le_of_ble_eq_true rfl, Nat.le_of_ble_eq_true rfl⟩, ht _ tw_995, ht _ twp_49⟩ ⟨PR_blind, va_recv hK hP (ci := 5) (q0 := 0) rfl eM_0, fun U hU hW => PR_mk hPc hK hU hW⟩ rfl rfl hl.1 rfl (lv_room (Nat.le_of_ble_eq_true rfl)) dX7_gain_7 ⟨Nat.zero_le _, Nat.zero_le _⟩) (fun r_3 hf => ?_)
    refine lv_goto (tgt := 23) hx hb dX7_gain_10 (by decide) ?_
    exact W.iret (v := r_3) hx hb hr (fun t ht hW => ⟨r_3, rfl, hf, ht⟩) (fun q h => absurd h List.not_mem_nil) dX7_gain_23
def B_X7_rests_158 (G46 : (Int32 × Int32 × Int32 × Int32 × Int32 × Int32) → Prop) (s0 : CS) (x1 : Int32) (x2 : Int32) (x3 : Int32) (x5 : Int32) (x6 : Int32) (t0 : Int32) (t1 : Int32) (Q : Int32 → Prop) : Prop := ∀ x4_1 : Int32, x4_1 = (t1 + t0) → ∀ x6_2 : Int32, x6_2 = x6 + (1 : Int32) → G46 (x1, x2, x3, x4_1, x5, x6_2)
def B_X7_rests_144 (G46 : (Int32 × Int32 × Int32 × Int32 × Int32 × Int32) → Prop) (s0 : CS) (x1 : Int32) (x2 : Int32) (x3 : Int32) (x4 : Int32) (x6 : Int32) (x9 : Int32) (t0 : Int32) (Q : Int32 → Prop) : Prop := ((x9 = 0 → B_X7_rests_158 G46 s0 x1 x2 x3 t0 x6 (0 : Int32) x4 Q) ∧ (¬ x9 = 0 → B_X7_rests_158 G46 s0 x1 x2 x3 t0 x6 (1 : Int32) x4 Q))
def B_X7_rests_142 (G46 : (Int32 × Int32 × Int32 × Int32 × Int32 × Int32) → Prop) (s0 : CS) (x1 : Int32) (x2 : Int32) (x3 : Int32) (x4 : Int32) (x5 : Int32) (x6 : Int32) (x9 : Int32) (Q : Int32 → Prop) : Prop := B_X7_rests_144 G46 s0 x1 x2 x3 x4 x6 x9 x5 Q
def B_X7_rests_119 (G46 : (Int32 × Int32 × Int32 × Int32 × Int32 × Int32) → Prop) (s0 : CS) (x1 : Int32) (x2 : Int32) (x3 : Int32) (x4 : Int32) (x5 : Int32) (x6 : Int32) (x7 : Int32) (x8 : Int32) (t0 : Int32) (Q : Int32 → Prop) : Prop := ((t0 = 0 → B_X7_rests_142 G46 s0 x1 x2 x3 x4 x5 x6 t0 Q) ∧ (¬ t0 = 0 → ((¬ x4 = 0 → B_X7_rests_142 G46 s0 x1 x2 x3 x4 x5 x6 t0 Q) ∧ (x4 = 0 → B_X7_rests_144 G46 s0 x1 x2 x3 x4 x6 t0 (((10 : Int32) * x7) + x8) Q))))
def B_X7_rests_118 (G46 : (Int32 × Int32 × Int32 × Int32 × Int32 × Int32) → Prop) (s0 : CS) (x1 : Int32) (x2 : Int32) (x3 : Int32) (x4 : Int32) (x5 : Int32) (x6 : Int32) (x7 : Int32) (x8 : Int32) (Q : Int32 → Prop) : Prop := B_X7_rests_119 G46 s0 x1 x2 x3 x4 x5 x6 x7 x8 (0 : Int32) Q
def LB_X7_rests_46 (G46 : (Int32 × Int32 × Int32 × Int32 × Int32 × Int32) → Prop) (s0 : CS) (x1 : Int32) (x2 : Int32) (x3 : Int32) (x4 : Int32) (x5 : Int32) (x6 : Int32) (Q : Int32 → Prop) : Prop := (((4 : Int32) ≤ x6 → ((¬ x3 = 0 → Q x5) ∧ (x3 = 0 → Q x4))) ∧ (¬ (4 : Int32) ≤ x6 → ∀ x7_8 : Int32, x7_8 = ((1 : Int32) + (x6 / (2 : Int32))) → ∀ x8_9 : Int32, x8_9 = ((1 : Int32) + (x6 - x6 / (2 : Int32) * (2 : Int32))) → wp_X7_gain x1 ((3 : Int32) - x7_8) x8_9 s0 (fun r_10 => wp_X7_gain x1 x7_8 x8_9 s0 (fun r_11 => ((r_11 < r_10 → B_X7_rests_118 G46 s0 x1 x2 x3 x4 x5 x6 x7_8 x8_9 Q) ∧ (¬ r_11 < r_10 → wp_X7_gain x2 ((3 : Int32) - x8_9) x7_8 s0 (fun r_13 => wp_X7_gain x2 x8_9 x7_8 s0 (fun r_14 => ((r_14 < r_13 → B_X7_rests_118 G46 s0 x1 x2 x3 x4 x5 x6 x7_8 x8_9 Q) ∧ (¬ r_14 < r_13 → B_X7_rests_119 G46 s0 x1 x2 x3 x4 x5 x6 x7_8 x8_9 (1 : Int32) Q))))))))))
def B_X7_rests_46 (s0 : CS) (x1 : Int32) (x2 : Int32) (x3 : Int32) (x4 : Int32) (x5 : Int32) (x6 : Int32) (Q : Int32 → Prop) : Prop := LOOP (fun (G46 : (Int32 × Int32 × Int32 × Int32 × Int32 × Int32) → Prop) z => LB_X7_rests_46 G46 s0 z.1 z.2.1 z.2.2.1 z.2.2.2.1 z.2.2.2.2.1 z.2.2.2.2.2 Q) (x1, x2, x3, x4, x5, x6)
def wp_X7_rests (p0 : Int32) (p1 : Int32) (p2 : Int32) (s0 : CS) (Q : Int32 → Prop) : Prop := wp_X7_isOwner p0 s0 (fun r_16 => ((r_16 = 0 → Q (-1 : Int32)) ∧ (¬ r_16 = 0 → wp_X7_isOwner p1 s0 (fun r_18 => ((¬ r_18 = 0 → ((p0 = p1 → Q (-2 : Int32)) ∧ (¬ p0 = p1 → wp_X7_in (p2.toInt64) (0 : Int64) (1 : Int64) (fun r_21 => ((¬ r_21 = 0 → B_X7_rests_46 s0 p0 p1 p2 (0 : Int32) (-9 : Int32) (0 : Int32) Q) ∧ (r_21 = 0 → Q (-2 : Int32))))))) ∧ (r_18 = 0 → Q (-1 : Int32)))))))
set_option maxHeartbeats 4000000 in
set_option maxRecDepth 100000 in
theorem c_X7_rests (l : Launch) (D : va_G) (cI cZ cW : ClassId) (q0 : Nat → Nat) (p0 : Int32) (p1 : Int32) (p2 : Int32) (s0 : CS) (Q : Int32 → Prop) (hf : wp_X7_rests p0 p1 p2 s0 Q) : Met l yX7_rests (wsA yX7_rests cX7_rests 10 (some .int)) ({ frames := 3, cells := 0, slots := 0, locals := 70 }) (PR D cI cZ cW [.ref (q0 0), .int p0, .int p1, .int p2] (wM cI cZ q0 s0)) (vp_Si Q) 0 0 (fun _ => False) := by
  refine Met.ofW (cc := cX7_rests) (maxL := 10) (ret := (some .int)) (by decide) rfl ?_
  intro p e s m args below meth c s₁ B hml hv
  obtain ⟨rfl, hP, hK⟩ := hv
  have hx := B.exec
  have hb := B.bytes
  have hr := B.returns
  have hts := atoms_spec (ws := (wsA yX7_rests cX7_rests 10 (some .int))) B.pre
  have ht : ∀ w ∈ lw_g, w.before _ s = true := fun w h => hts w (List.mem_cons_of_mem _ h)
  have hown : s.vm.findClass RX7 = some m.cls := findClass_of_methodNamed B.named
  have hlocks := B.notSynchronized
  have hl := lv_entry ([.ref (q0 0), .int p0, .int p1, .int p2]) (n := 10) (Nat.le_of_ble_eq_true rfl)
  rw [lg_entry_eq]
  generalize (lg_sl ([.ref (q0 0), .int p0, .int p1, .int p2]) ++ List.replicate (10 - (lg_sl ([.ref (q0 0), .int p0, .int p1, .int p2])).length) Slot.unset).toArray = ls at hl ⊢
  have hl : lv_has ls 10 [(0, .ref (q0 0)), (1, .int p0), (2, .int p1), (3, .int p2)] := hl
  unfold wp_X7_rests at hf
  have k_46 : ∀ (x1 : Int32) (x2 : Int32) (x3 : Int32) (x4 : Int32) (x5 : Int32) (x6 : Int32) (ls : Array Slot), B_X7_rests_46 s0 x1 x2 x3 x4 x5 x6 Q → lv_has ls 10 [(0, .ref (q0 0)), (1, .int x1), (2, .int x2), (3, .int x3), (4, .int x4), (5, .int x5), (6, .int x6)] → W p l e (headSpec (wsA yX7_rests cX7_rests 10 (some .int)) ({ frames := 3, cells := 0, slots := 0, locals := 70 })).room s m (#[.ref (q0 0), .int p0, .int p1, .int p2] : Array Value) below meth c s.heap [] 0 0 (MQ below (vp_Si Q) (#[.ref (q0 0), .int p0, .int p1, .int p2] : Array Value) s 0 0 (fun _ => False)) (F0 m 46 ls []) := by
    intro x1 x2 x3 x4 x5 x6 ls hf hl
    unfold B_X7_rests_46 at hf
    obtain ⟨I_46, ⟨n0_46, hI0_46⟩, hst_46⟩ := hf
    have main_46 : ∀ (n : Nat) (x1 : Int32) (x2 : Int32) (x3 : Int32) (x4 : Int32) (x5 : Int32) (x6 : Int32) (ls : Array Slot), I_46 n (x1, x2, x3, x4, x5, x6) → lv_has ls 10 [(0, .ref (q0 0)), (1, .int x1), (2, .int x2), (3, .int x3), (4, .int x4), (5, .int x5), (6, .int x6)] → W p l e (headSpec (wsA yX7_rests cX7_rests 10 (some .int)) ({ frames := 3, cells := 0, slots := 0, locals := 70 })).room s m (#[.ref (q0 0), .int p0, .int p1, .int p2] : Array Value) below meth c s.heap [] 0 0 (MQ below (vp_Si Q) (#[.ref (q0 0), .int p0, .int p1, .int p2] : Array Value) s 0 0 (fun _ => False)) (F0 m 46 ls []) := by
      intro n
      induction n using Nat.strongRecOn with
      | _ n_46 ih_46 =>
      intro x1 x2 x3 x4 x5 x6 ls hI hl
      have hf : LB_X7_rests_46 (fun z => ∃ k, k < n_46 ∧ I_46 k z) s0 x1 x2 x3 x4 x5 x6 Q := hst_46 n_46 (x1, x2, x3, x4, x5, x6) hI
      have hG_46 : ∀ (x1 : Int32) (x2 : Int32) (x3 : Int32) (x4 : Int32) (x5 : Int32) (x6 : Int32) (ls : Array Slot), (∃ k, k < n_46 ∧ I_46 k (x1, x2, x3, x4, x5, x6)) → lv_has ls 10 [(0, .ref (q0 0)), (1, .int x1), (2, .int x2), (3, .int x3), (4, .int x4), (5, .int x5), (6, .int x6)] → W p l e (headSpec (wsA yX7_rests cX7_rests 10 (some .int)) ({ frames := 3, cells := 0, slots := 0, locals := 70 })).room s m (#[.ref (q0 0), .int p0, .int p1, .int p2] : Array Value) below meth c s.heap [] 0 0 (MQ below (vp_Si Q) (#[.ref (q0 0), .int p0, .int p1, .int p2] : Array Value) s 0 0 (fun _ => False)) (F0 m 46 ls []) := by
        rintro x1 x2 x3 x4 x5 x6 ls ⟨k, hk, hI⟩ hl
        exact ih_46 k hk x1 x2 x3 x4 x5 x6 ls hI hl
      unfold LB_X7_rests_46 at hf
      have k_158 : ∀ (x1 : Int32) (x2 : Int32) (x3 : Int32) (x5 : Int32) (x6 : Int32) (t0 : Int32) (t1 : Int32) (ls : Array Slot), B_X7_rests_158 (fun z => ∃ k, k < n_46 ∧ I_46 k z) s0 x1 x2 x3 x5 x6 t0 t1 Q → lv_has ls 10 [(0, .ref (q0 0)), (1, .int x1), (2, .int x2), (3, .int x3), (5, .int x5), (6, .int x6)] → W p l e (headSpec (wsA yX7_rests cX7_rests 10 (some .int)) ({ frames := 3, cells := 0, slots := 0, locals := 70 })).room s m (#[.ref (q0 0), .int p0, .int p1, .int p2] : Array Value) below meth c s.heap [] 0 0 (MQ below (vp_Si Q) (#[.ref (q0 0), .int p0, .int p1, .int p2] : Array Value) s 0 0 (fun _ => False)) (F0 m 158 ls [.int t0, .int t1]) := by
        intro x1 x2 x3 x5 x6 t0 t1 ls hf hl
        unfold B_X7_rests_158 at hf
        refine lv_iadd hx hb dX7_rests_158 ?_
        refine lv_topi (fun x4_1 ex4_1 => ?_)
        have hf := hf x4_1 ex4_1
        refine lv_istore (lv' := [(4, .int x4_1), (0, .ref (q0 0)), (1, .int x1), (2, .int x2), (3, .int x3), (5, .int x5), (6, .int x6)]) hx hb dX7_rests_159 hl (by decide) rfl (fun ls hl => ?_)
        obtain ⟨x6_2, ex6_2⟩ : ∃ y : Int32, y = x6 + (1 : Int32) := ⟨_, rfl⟩
        have hf := hf x6_2 ex6_2
        refine lv_iinc (v := x6_2) (lv' := [(6, .int x6_2), (4, .int x4_1), (0, .ref (q0 0)), (1, .int x1), (2, .int x2), (3, .int x3), (5, .int x5)]) hx hb dX7_rests_161 hl (k := 6) rfl (by rw [ex6_2]; rfl) (by decide) rfl (fun ls hl => ?_)
        refine lv_goto (tgt := 46) hx hb dX7_rests_164 (by decide) ?_
        exact hG_46 x1 x2 x3 x4_1 x5 x6_2 ls hf (lv_sub hl [2, 3, 4, 5, 1, 6, 0] rfl)
      have k_144 : ∀ (x1 : Int32) (x2 : Int32) (x3 : Int32) (x4 : Int32) (x6 : Int32) (x9 : Int32) (t0 : Int32) (ls : Array Slot), B_X7_rests_144 (fun z => ∃ k, k < n_46 ∧ I_46 k z) s0 x1 x2 x3 x4 x6 x9 t0 Q → lv_has ls 10 [(0, .ref (q0 0)), (1, .int x1), (2, .int x2), (3, .int x3), (4, .int x4), (6, .int x6), (9, .int x9)] → W p l e (headSpec (wsA yX7_rests cX7_rests 10 (some .int)) ({ frames := 3, cells := 0, slots := 0, locals := 70 })).room s m (#[.ref (q0 0), .int p0, .int p1, .int p2] : Array Value) below meth c s.heap [] 0 0 (MQ below (vp_Si Q) (#[.ref (q0 0), .int p0, .int p1, .int p2] : Array Value) s 0 0 (fun _ => False)) (F0 m 144 ls [.int t0]) := by
        intro x1 x2 x3 x4 x6 x9 t0 ls hf hl
        unfold B_X7_rests_144 at hf
        refine lv_istore (lv' := [(5, .int t0), (0, .ref (q0 0)), (1, .int x1), (2, .int x2), (3, .int x3), (4, .int x4), (6, .int x6), (9, .int x9)]) hx hb dX7_rests_144 hl (by decide) rfl (fun ls hl => ?_)
        refine lv_iload hx hb dX7_rests_146 (lv_at hl 5 rfl) ?_
        refine lv_iload hx hb dX7_rests_148 (lv_at hl 7 rfl) ?_
        refine lv_if_eq (tgt := 157) hx hb dX7_rests_150 (by decide) (fun c_3 => ?_) (fun c_3 => ?_)
        · have hf := hf.1 c_3
          refine lv_iconst (v := (0 : Int32)) hx hb dX7_rests_157 (by decide) ?_
          exact k_158 x1 x2 x3 t0 x6 (0 : Int32) x4 ls hf (lv_sub hl [1, 2, 3, 4, 0, 6] rfl)
        · have hf := hf.2 c_3
          refine lv_iconst (v := (1 : Int32)) hx hb dX7_rests_153 (by decide) ?_
          refine lv_goto (tgt := 158) hx hb dX7_rests_154 (by decide) ?_
          exact k_158 x1 x2 x3 t0 x6 (1 : Int32) x4 ls hf (lv_sub hl [1, 2, 3, 4, 0, 6] rfl)
      have k_142 : ∀ (x1 : Int32) (x2 : Int32) (x3 : Int32) (x4 : Int32) (x5 : Int32) (x6 : Int32) (x9 : Int32) (ls : Array Slot), B_X7_rests_142 (fun z => ∃ k, k < n_46 ∧ I_46 k z) s0 x1 x2 x3 x4 x5 x6 x9 Q → lv_has ls 10 [(0, .ref (q0 0)), (1, .int x1), (2, .int x2), (3, .int x3), (4, .int x4), (5, .int x5), (6, .int x6), (9, .int x9)] → W p l e (headSpec (wsA yX7_rests cX7_rests 10 (some .int)) ({ frames := 3, cells := 0, slots := 0, locals := 70 })).room s m (#[.ref (q0 0), .int p0, .int p1, .int p2] : Array Value) below meth c s.heap [] 0 0 (MQ below (vp_Si Q) (#[.ref (q0 0), .int p0, .int p1, .int p2] : Array Value) s 0 0 (fun _ => False)) (F0 m 142 ls []) := by
        intro x1 x2 x3 x4 x5 x6 x9 ls hf hl
        unfold B_X7_rests_142 at hf
        refine lv_iload hx hb dX7_rests_142 (lv_at hl 5 rfl) ?_
        exact k_144 x1 x2 x3 x4 x6 x9 x5 ls hf (lv_sub hl [0, 1, 2, 3, 4, 6, 7] rfl)
      have k_119 : ∀ (x1 : Int32) (x2 : Int32) (x3 : Int32) (x4 : Int32) (x5 : Int32) (x6 : Int32) (x7 : Int32) (x8 : Int32) (t0 : Int32) (ls : Array Slot), B_X7_rests_119 (fun z => ∃ k, k < n_46 ∧ I_46 k z) s0 x1 x2 x3 x4 x5 x6 x7 x8 t0 Q → lv_has ls 10 [(0, .ref (q0 0)), (1, .int x1), (2, .int x2), (3, .int x3), (4, .int x4), (5, .int x5), (6, .int x6), (7, .int x7), (8, .int x8)] → W p l e (headSpec (wsA yX7_rests cX7_rests 10 (some .int)) ({ frames := 3, cells := 0, slots := 0, locals := 70 })).room s m (#[.ref (q0 0), .int p0, .int p1, .int p2] : Array Value) below meth c s.heap [] 0 0 (MQ below (vp_Si Q) (#[.ref (q0 0), .int p0, .int p1, .int p2] : Array Value) s 0 0 (fun _ => False)) (F0 m 119 ls [.int t0]) := by
        intro x1 x2 x3 x4 x5 x6 x7 x8 t0 ls hf hl
        unfold B_X7_rests_119 at hf
        refine lv_istore (lv' := [(9, .int t0), (0, .ref (q0 0)), (1, .int x1), (2, .int x2), (3, .int x3), (4, .int x4), (5, .int x5), (6, .int x6), (7, .int x7), (8, .int x8)]) hx hb dX7_rests_119 hl (by decide) rfl (fun ls hl => ?_)
        refine lv_iload hx hb dX7_rests_121 (lv_at hl 0 rfl) ?_
        refine lv_if_eq (tgt := 142) hx hb dX7_rests_123 (by decide) (fun c_4 => ?_) (fun c_4 => ?_)
        · have hf := hf.1 c_4
          exact k_142 x1 x2 x3 x4 x5 x6 t0 ls hf (lv_sub hl [1, 2, 3, 4, 5, 6, 7, 0] rfl)
        · have hf := hf.2 c_4
          refine lv_iload hx hb dX7_rests_126 (lv_at hl 5 rfl) ?_
          refine lv_if_ne (tgt := 142) hx hb dX7_rests_128 (by decide) (fun c_5 => ?_) (fun c_5 => ?_)
          · have hf := hf.1 c_5
            exact k_142 x1 x2 x3 x4 x5 x6 t0 ls hf (lv_sub hl [1, 2, 3, 4, 5, 6, 7, 0] rfl)
          · have hf := hf.2 c_5
            refine lv_bipush (v := (10 : Int32)) hx hb dX7_rests_131 (by decide) ?_
            refine lv_iload hx hb dX7_rests_133 (lv_at hl 8 rfl) ?_
            refine lv_imul hx hb dX7_rests_135 ?_
            refine lv_iload hx hb dX7_rests_136 (lv_at hl 9 rfl) ?_
            refine lv_iadd hx hb dX7_rests_138 ?_
            refine lv_goto (tgt := 144) hx hb dX7_rests_139 (by decide) ?_
            exact k_144 x1 x2 x3 x4 x6 t0 (((10 : Int32) * x7) + x8) ls hf (lv_sub hl [1, 2, 3, 4, 5, 7, 0] rfl)
      have k_118 : ∀ (x1 : Int32) (x2 : Int32) (x3 : Int32) (x4 : Int32) (x5 : Int32) (x6 : Int32) (x7 : Int32) (x8 : Int32) (ls : Array Slot), B_X7_rests_118 (fun z => ∃ k, k < n_46 ∧ I_46 k z) s0 x1 x2 x3 x4 x5 x6 x7 x8 Q → lv_has ls 10 [(0, .ref (q0 0)), (1, .int x1), (2, .int x2), (3, .int x3), (4, .int x4), (5, .int x5), (6, .int x6), (7, .int x7), (8, .int x8)] → W p l e (headSpec (wsA yX7_rests cX7_rests 10 (some .int)) ({ frames := 3, cells := 0, slots := 0, locals := 70 })).room s m (#[.ref (q0 0), .int p0, .int p1, .int p2] : Array Value) below meth c s.heap [] 0 0 (MQ below (vp_Si Q) (#[.ref (q0 0), .int p0, .int p1, .int p2] : Array Value) s 0 0 (fun _ => False)) (F0 m 118 ls []) := by
        intro x1 x2 x3 x4 x5 x6 x7 x8 ls hf hl
        unfold B_X7_rests_118 at hf
        refine lv_iconst (v := (0 : Int32)) hx hb dX7_rests_118 (by decide) ?_
        exact k_119 x1 x2 x3 x4 x5 x6 x7 x8 (0 : Int32) ls hf (lv_sub hl [0, 1, 2, 3, 4, 5, 6, 7, 8] rfl)
      refine lv_iload hx hb dX7_rests_46 (lv_at hl 6 rfl) ?_
      refine lv_iconst (v := (4 : Int32)) hx hb dX7_rests_48 (by decide) ?_
      refine lv_icmp_ge (tgt := 167) hx hb dX7_rests_49 (by decide) (fun c_6 => ?_) (fun c_6 => ?_)
      · have hf := hf.1 c_6
        refine lv_iload_n hx hb dX7_rests_167 rfl (lv_at hl 3 rfl) ?_
        refine lv_if_ne (tgt := 176) hx hb dX7_rests_168 (by decide) (fun c_7 => ?_) (fun c_7 => ?_)
        · have hf := hf.1 c_7
          refine lv_iload hx hb dX7_rests_176 (lv_at hl 5 rfl) ?_
          exact W.iret (v := x5) hx hb hr (fun t ht hW => ⟨x5, rfl, hf, ht⟩) (fun q h => absurd h List.not_mem_nil) dX7_rests_178
        · have hf := hf.2 c_7
          refine lv_iload hx hb dX7_rests_171 (lv_at hl 4 rfl) ?_
          refine lv_goto (tgt := 178) hx hb dX7_rests_173 (by decide) ?_
          exact W.iret (v := x4) hx hb hr (fun t ht hW => ⟨x4, rfl, hf, ht⟩) (fun q h => absurd h List.not_mem_nil) dX7_rests_178
      · have hf := hf.2 c_6
        refine lv_iconst (v := (1 : Int32)) hx hb dX7_rests_52 (by decide) ?_
        refine lv_iload hx hb dX7_rests_53 (lv_at hl 6 rfl) ?_
        refine lv_iconst (v := (2 : Int32)) hx hb dX7_rests_55 (by decide) ?_
        refine lv_idiv hx hb dX7_rests_56 (by decide) ?_
        refine lv_iadd hx hb dX7_rests_57 ?_
        refine lv_topi (fun x7_8 ex7_8 => ?_)
        have hf := hf x7_8 ex7_8
        refine lv_istore (lv' := [(7, .int x7_8), (0, .ref (q0 0)), (1, .int x1), (2, .int x2), (3, .int x3), (4, .int x4), (5, .int x5), (6, .int x6)]) hx hb dX7_rests_58 hl (by decide) rfl (fun ls hl => ?_)
        refine lv_iconst (v := (1 : Int32)) hx hb dX7_rests_60 (by decide) ?_
        refine lv_iload hx hb dX7_rests_61 (lv_at hl 7 rfl) ?_
        refine lv_iconst (v := (2 : Int32)) hx hb dX7_rests_63 (by decide) ?_
        refine lv_irem hx hb dX7_rests_64 (by decide) ?_
        refine lv_iadd hx hb dX7_rests_65 ?_
        refine lv_topi (fun x8_9 ex8_9 => ?_)
        have hf := hf x8_9 ex8_9
        refine lv_istore (lv' := [(8, .int x8_9), (7, .int x7_8), (0, .ref (q0 0)), (1, .int x1), (2, .int x2), (3, .int x3), (4, .int x4), (5, .int x5), (6, .int x6)]) hx hb dX7_rests_66 hl (by decide) rfl (fun ls hl => ?_)
        refine lv_aload_n hx hb dX7_rests_68 rfl (lv_at hl 2 rfl) ?_
        refine lv_iload_n hx hb dX7_rests_69 rfl (lv_at hl 3 rfl) ?_
        refine lv_iconst (v := (3 : Int32)) hx hb dX7_rests_70 (by decide) ?_
        refine lv_iload hx hb dX7_rests_71 (lv_at hl 1 rfl) ?_
        refine lv_isub hx hb dX7_rests_73 ?_
        refine lv_iload hx hb dX7_rests_74 (lv_at hl 0 rfl) ?_
        have hPc : va_P D classes (wM cI cZ q0 s0) s.heap := hP
        refine vp_callSi (W.runV (As := [.int x1, .int ((3 : Int32) - x7_8), .int x8_9]) (rest := []) ⟨hx, hb, hml, hown, hts⟩ (c_X7_gain l D cI cZ cW q0 x1 ((3 : Int32) - x7_8) x8_9 s0 _ hf) ⟨callB_of 3 hts (gA tw_992) rfl rfl rfl (ht _ tw_7) (ht _ tw_989) hd_X7_gain ⟨Nat.le_of_ble_eq_true rfl, Nat.le_of_ble_eq_true rfl⟩, ht _ tw_991, ht _ twp_48⟩ ⟨PR_blind, va_recv hK hP (ci := 5) (q0 := 0) rfl eM_0, fun U hU hW => PR_mk hPc hK hU hW⟩ rfl rfl hl.1 rfl (lv_room (Nat.le_of_ble_eq_true rfl)) dX7_rests_76 ⟨Nat.zero_le _, Nat.zero_le _⟩) (fun r_10 hf => ?_)
        refine lv_aload_n hx hb dX7_rests_79 rfl (lv_at hl 2 rfl) ?_
        refine lv_iload_n hx hb dX7_rests_80 rfl (lv_at hl 3 rfl) ?_
        refine lv_iload hx hb dX7_rests_81 (lv_at hl 1 rfl) ?_
        refine lv_iload hx hb dX7_rests_83 (lv_at hl 0 rfl) ?_
        have hPc : va_P D classes (wM cI cZ q0 s0) s.heap := hP
        refine vp_callSi (W.runV (As := [.int x1, .int x7_8, .int x8_9]) (rest := [.int r_10]) ⟨hx, hb, hml, hown, hts⟩ (c_X7_gain l D cI cZ cW q0 x1 x7_8 x8_9 s0 _ hf) ⟨callB_of 3 hts (gA tw_992) rfl rfl rfl (ht _ tw_7) (ht _ tw_989) hd_X7_gain ⟨Nat.le_of_ble_eq_true rfl, Nat.le_of_ble_eq_true rfl⟩, ht _ tw_991, ht _ twp_48⟩ ⟨PR_blind, va_recv hK hP (ci := 5) (q0 := 0) rfl eM_0, fun U hU hW => PR_mk hPc hK hU hW⟩ rfl rfl hl.1 rfl (lv_room (Nat.le_of_ble_eq_true rfl)) dX7_rests_85 ⟨Nat.zero_le _, Nat.zero_le _⟩) (fun r_11 hf => ?_)
        refine lv_icmp_gt (tgt := 118) hx hb dX7_rests_88 (by decide) (fun c_12 => ?_) (fun c_12 => ?_)
        · have hf := hf.1 c_12
          exact k_118 x1 x2 x3 x4 x5 x6 x7_8 x8_9 ls hf (lv_sub hl [2, 3, 4, 5, 6, 7, 8, 1, 0] rfl)
        · have hf := hf.2 c_12
          refine lv_aload_n hx hb dX7_rests_91 rfl (lv_at hl 2 rfl) ?_
          refine lv_iload_n hx hb dX7_rests_92 rfl (lv_at hl 4 rfl) ?_
          refine lv_iconst (v := (3 : Int32)) hx hb dX7_rests_93 (by decide) ?_
          refine lv_iload hx hb dX7_rests_94 (lv_at hl 0 rfl) ?_
          refine lv_isub hx hb dX7_rests_96 ?_
          refine lv_iload hx hb dX7_rests_97 (lv_at hl 1 rfl) ?_
          have hPc : va_P D classes (wM cI cZ q0 s0) s.heap := hP
          refine vp_callSi (W.runV (As := [.int x2, .int ((3 : Int32) - x8_9), .int x7_8]) (rest := []) ⟨hx, hb, hml, hown, hts⟩ (c_X7_gain l D cI cZ cW q0 x2 ((3 : Int32) - x8_9) x7_8 s0 _ hf) ⟨callB_of 3 hts (gA tw_992) rfl rfl rfl (ht _ tw_7) (ht _ tw_989) hd_X7_gain ⟨Nat.le_of_ble_eq_true rfl, Nat.le_of_ble_eq_true rfl⟩, ht _ tw_991, ht _ twp_48⟩ ⟨PR_blind, va_recv hK hP (ci := 5) (q0 := 0) rfl eM_0, fun U hU hW => PR_mk hPc hK hU hW⟩ rfl rfl hl.1 rfl (lv_room (Nat.le_of_ble_eq_true rfl)) dX7_rests_99 ⟨Nat.zero_le _, Nat.zero_le _⟩) (fun r_13 hf => ?_)
          refine lv_aload_n hx hb dX7_rests_102 rfl (lv_at hl 2 rfl) ?_
          refine lv_iload_n hx hb dX7_rests_103 rfl (lv_at hl 4 rfl) ?_
          refine lv_iload hx hb dX7_rests_104 (lv_at hl 0 rfl) ?_
          refine lv_iload hx hb dX7_rests_106 (lv_at hl 1 rfl) ?_
          have hPc : va_P D classes (wM cI cZ q0 s0) s.heap := hP
          refine vp_callSi (W.runV (As := [.int x2, .int x8_9, .int x7_8]) (rest := [.int r_13]) ⟨hx, hb, hml, hown, hts⟩ (c_X7_gain l D cI cZ cW q0 x2 x8_9 x7_8 s0 _ hf) ⟨callB_of 3 hts (gA tw_992) rfl rfl rfl (ht _ tw_7) (ht _ tw_989) hd_X7_gain ⟨Nat.le_of_ble_eq_true rfl, Nat.le_of_ble_eq_true rfl⟩, ht _ tw_991, ht _ twp_48⟩ ⟨PR_blind, va_recv hK hP (ci := 5) (q0 := 0) rfl eM_0, fun U hU hW => PR_mk hPc hK hU hW⟩ rfl rfl hl.1 rfl (lv_room (Nat.le_of_ble_eq_true rfl)) dX7_rests_108 ⟨Nat.zero_le _, Nat.zero_le _⟩) (fun r_14 hf => ?_)
          refine lv_icmp_gt (tgt := 118) hx hb dX7_rests_111 (by decide) (fun c_15 => ?_) (fun c_15 => ?_)
          · have hf := hf.1 c_15
            exact k_118 x1 x2 x3 x4 x5 x6 x7_8 x8_9 ls hf (lv_sub hl [2, 3, 4, 5, 6, 7, 8, 1, 0] rfl)
          · have hf := hf.2 c_15
            refine lv_iconst (v := (1 : Int32)) hx hb dX7_rests_114 (by decide) ?_
            refine lv_goto (tgt := 119) hx hb dX7_rests_115 (by decide) ?_
            exact k_119 x1 x2 x3 x4 x5 x6 x7_8 x8_9 (1 : Int32) ls hf (lv_sub hl [2, 3, 4, 5, 6, 7, 8, 1, 0] rfl)
    exact main_46 n0_46 x1 x2 x3 x4 x5 x6 ls hI0_46 hl
  refine lv_aload_n hx hb dX7_rests_0 rfl (lv_at hl 0 rfl) ?_
  refine lv_iload_n hx hb dX7_rests_1 rfl (lv_at hl 1 rfl) ?_
  have hPc : va_P D classes (wM cI cZ q0 s0) s.heap := hP
  refine vp_callSi (W.runV (As := [.int p0]) (rest := []) ⟨hx, hb, hml, hown, hts⟩ (c_X7_isOwner l D cI cZ cW q0 p0 s0 _ hf) ⟨callB_of 1 hts (gA tw_784) rfl rfl rfl (ht _ tw_7) (ht _ tw_781) hd_X7_isOwner ⟨Nat.le_of_ble_eq_true rfl, Nat.le_of_ble_eq_true rfl⟩, ht _ tw_783, ht _ twp_21⟩ ⟨PR_blind, va_recv hK hP (ci := 5) (q0 := 0) rfl eM_0, fun U hU hW => PR_mk hPc hK hU hW⟩ rfl rfl hl.1 rfl (lv_room (Nat.le_of_ble_eq_true rfl)) dX7_rests_2 ⟨Nat.zero_le _, Nat.zero_le _⟩) (fun r_16 hf => ?_)
  refine lv_if_eq (tgt := 16) hx hb dX7_rests_5 (by decide) (fun c_17 => ?_) (fun c_17 => ?_)
  · have hf := hf.1 c_17
    refine lv_iconst (v := (-1 : Int32)) hx hb dX7_rests_16 (by decide) ?_
    exact W.iret (v := (-1 : Int32)) hx hb hr (fun t ht hW => ⟨(-1 : Int32), rfl, hf, ht⟩) (fun q h => absurd h List.not_mem_nil) dX7_rests_17
  · have hf := hf.2 c_17
    refine lv_aload_n hx hb dX7_rests_8 rfl (lv_at hl 0 rfl) ?_
    refine lv_iload_n hx hb dX7_rests_9 rfl (lv_at hl 2 rfl) ?_
    have hPc : va_P D classes (wM cI cZ q0 s0) s.heap := hP
    refine vp_callSi (W.runV (As := [.int p1]) (rest := []) ⟨hx, hb, hml, hown, hts⟩ (c_X7_isOwner l D cI cZ cW q0 p1 s0 _ hf) ⟨callB_of 1 hts (gA tw_784) rfl rfl rfl (ht _ tw_7) (ht _ tw_781) hd_X7_isOwner ⟨Nat.le_of_ble_eq_true rfl, Nat.le_of_ble_eq_true rfl⟩, ht _ tw_783, ht _ twp_21⟩ ⟨PR_blind, va_recv hK hP (ci := 5) (q0 := 0) rfl eM_0, fun U hU hW => PR_mk hPc hK hU hW⟩ rfl rfl hl.1 rfl (lv_room (Nat.le_of_ble_eq_true rfl)) dX7_rests_10 ⟨Nat.zero_le _, Nat.zero_le _⟩) (fun r_18 hf => ?_)
    refine lv_if_ne (tgt := 18) hx hb dX7_rests_13 (by decide) (fun c_19 => ?_) (fun c_19 => ?_)
    · have hf := hf.1 c_19
      refine lv_iload_n hx hb dX7_rests_18 rfl (lv_at hl 1 rfl) ?_
      refine lv_iload_n hx hb dX7_rests_19 rfl (lv_at hl 2 rfl) ?_
      refine lv_icmp_eq (tgt := 33) hx hb dX7_rests_20 (by decide) (fun c_20 => ?_) (fun c_20 => ?_)
      · have hf := hf.1 c_20
        refine lv_bipush (v := (-2 : Int32)) hx hb dX7_rests_33 (by decide) ?_
        exact W.iret (v := (-2 : Int32)) hx hb hr (fun t ht hW => ⟨(-2 : Int32), rfl, hf, ht⟩) (fun q h => absurd h List.not_mem_nil) dX7_rests_35
      · have hf := hf.2 c_20
        refine lv_iload_n hx hb dX7_rests_23 rfl (lv_at hl 3 rfl) ?_
        refine lv_i2l (v := p2.toInt64) hx hb dX7_rests_24 rfl ?_
        refine lv_lconst (v := (0 : Int64)) hx hb dX7_rests_25 (by decide) ?_
        refine lv_lconst (v := (1 : Int64)) hx hb dX7_rests_26 (by decide) ?_
        have hPc : va_P D classes ([] : va_W) s.heap := hP.sub [] rfl
        refine vp_callSi (W.runS (As := [.long p2.toInt64, .long (0 : Int64), .long (1 : Int64)]) (rest := []) ⟨hx, hb, hml, hown, hts⟩ (c_X7_in l D cI cZ cW  (p2.toInt64) (0 : Int64) (1 : Int64) _ hf) ⟨callB_of 3 hts (gA tw_747) rfl rfl rfl (ht _ tw_7) (ht _ tw_745) hd_X7_in ⟨Nat.le_of_ble_eq_true rfl, Nat.le_of_ble_eq_true rfl⟩, ht _ tw_746⟩ ⟨PR_blind, fun U hU hW => PR_mk hPc hK hU hW⟩ rfl rfl hl.1 rfl (lv_room (Nat.le_of_ble_eq_true rfl)) dX7_rests_27 ⟨Nat.zero_le _, Nat.zero_le _⟩) (fun r_21 hf => ?_)
        refine lv_if_ne (tgt := 36) hx hb dX7_rests_30 (by decide) (fun c_22 => ?_) (fun c_22 => ?_)
        · have hf := hf.1 c_22
          refine lv_iconst (v := (0 : Int32)) hx hb dX7_rests_36 (by decide) ?_
          refine lv_istore (lv' := [(4, .int (0 : Int32)), (0, .ref (q0 0)), (1, .int p0), (2, .int p1), (3, .int p2)]) hx hb dX7_rests_37 hl (by decide) rfl (fun ls hl => ?_)
          refine lv_bipush (v := (-9 : Int32)) hx hb dX7_rests_39 (by decide) ?_
          refine lv_istore (lv' := [(5, .int (-9 : Int32)), (4, .int (0 : Int32)), (0, .ref (q0 0)), (1, .int p0), (2, .int p1), (3, .int p2)]) hx hb dX7_rests_41 hl (by decide) rfl (fun ls hl => ?_)
          refine lv_iconst (v := (0 : Int32)) hx hb dX7_rests_43 (by decide) ?_
          refine lv_istore (lv' := [(6, .int (0 : Int32)), (5, .int (-9 : Int32)), (4, .int (0 : Int32)), (0, .ref (q0 0)), (1, .int p0), (2, .int p1), (3, .int p2)]) hx hb dX7_rests_44 hl (by decide) rfl (fun ls hl => ?_)
          exact k_46 p0 p1 p2 (0 : Int32) (-9 : Int32) (0 : Int32) ls hf (lv_sub hl [3, 4, 5, 6, 2, 1, 0] rfl)
        · have hf := hf.2 c_22
          refine lv_bipush (v := (-2 : Int32)) hx hb dX7_rests_33 (by decide) ?_
          exact W.iret (v := (-2 : Int32)) hx hb hr (fun t ht hW => ⟨(-2 : Int32), rfl, hf, ht⟩) (fun q h => absurd h List.not_mem_nil) dX7_rests_35
    · have hf := hf.2 c_19
      refine lv_iconst (v := (-1 : Int32)) hx hb dX7_rests_16 (by decide) ?_
      exact W.iret (v := (-1 : Int32)) hx hb hr (fun t ht hW => ⟨(-1 : Int32), rfl, hf, ht⟩) (fun q h => absurd h List.not_mem_nil) dX7_rests_17
def B_X7_passes_162 (G40 : (Int32 × Int32 × Int32 × Int32 × Int32 × Int32 × Int32) → Prop) (s0 : CS) (x1 : Int32) (x2 : Int32) (x3 : Int32) (x4 : Int32) (x6 : Int32) (x7 : Int32) (t0 : Int32) (t1 : Int32) (Q : Int32 → Prop) : Prop := ∀ x5_1 : Int32, x5_1 = (t1 + t0) → ∀ x7_2 : Int32, x7_2 = x7 + (1 : Int32) → G40 (x1, x2, x3, x4, x5_1, x6, x7_2)
def B_X7_passes_156 (G40 : (Int32 × Int32 × Int32 × Int32 × Int32 × Int32 × Int32) → Prop) (s0 : CS) (x1 : Int32) (x2 : Int32) (x3 : Int32) (x4 : Int32) (x6 : Int32) (x7 : Int32) (x8 : Int32) (t0 : Int32) (Q : Int32 → Prop) : Prop := B_X7_passes_162 G40 s0 x1 x2 x3 x4 x6 x7 x8 t0 Q
def B_X7_passes_121 (G40 : (Int32 × Int32 × Int32 × Int32 × Int32 × Int32 × Int32) → Prop) (G66 : (Int32 × Int32 × Int32 × Int32 × Int32 × Int32 × Int32 × Int32 × Int32 × Int32) → Prop) (s0 : CS) (x1 : Int32) (x2 : Int32) (x3 : Int32) (x4 : Int32) (x5 : Int32) (x6 : Int32) (x7 : Int32) (x8 : Int32) (x10 : Int32) (t0 : Int32) (t1 : Int32) (Q : Int32 → Prop) : Prop := ∀ x9_3 : Int32, x9_3 = (t1 ||| t0) → ∀ x10_4 : Int32, x10_4 = x10 + (1 : Int32) → G66 (x1, x2, x3, x4, x5, x6, x7, x8, x9_3, x10_4)
def B_X7_passes_95 (G40 : (Int32 × Int32 × Int32 × Int32 × Int32 × Int32 × Int32) → Prop) (G66 : (Int32 × Int32 × Int32 × Int32 × Int32 × Int32 × Int32 × Int32 × Int32 × Int32) → Prop) (s0 : CS) (x1 : Int32) (x2 : Int32) (x3 : Int32) (x4 : Int32) (x5 : Int32) (x6 : Int32) (x7 : Int32) (x9 : Int32) (x10 : Int32) (t0 : Int32) (t1 : Int32) (Q : Int32 → Prop) : Prop := ∀ x8_5 : Int32, x8_5 = (t1 * t0) → wp_X7_has x7 x10 (fun r_6 => ((r_6 = 0 → wp_X7_of (0 : Int32) x10 s0 (fun r_8 => B_X7_passes_121 G40 G66 s0 x1 x2 x3 x4 x5 x6 x7 x8_5 x10 r_8 x9 Q)) ∧ (¬ r_6 = 0 → B_X7_passes_121 G40 G66 s0 x1 x2 x3 x4 x5 x6 x7 x8_5 x10 (0 : Int32) x9 Q)))
def LB_X7_passes_66 (G66 : (Int32 × Int32 × Int32 × Int32 × Int32 × Int32 × Int32 × Int32 × Int32 × Int32) → Prop) (G40 : (Int32 × Int32 × Int32 × Int32 × Int32 × Int32 × Int32) → Prop) (s0 : CS) (x1 : Int32) (x2 : Int32) (x3 : Int32) (x4 : Int32) (x5 : Int32) (x6 : Int32) (x7 : Int32) (x8 : Int32) (x9 : Int32) (x10 : Int32) (Q : Int32 → Prop) : Prop := (((s0.1 1) ≤ x10 → ∀ x6_10 : Int32, x6_10 = (x6 + x8) → ((x1 = x2 → B_X7_passes_156 G40 s0 x1 x2 x3 x4 x6_10 x7 x8 x5 Q) ∧ (¬ x1 = x2 → wp_X7_stepsBy x1 x2 x9 (fun r_12 => ((r_12 = (-9 : Int32) → B_X7_passes_162 G40 s0 x1 x2 x3 x4 x6_10 x7 (0 : Int32) x5 Q) ∧ (¬ r_12 = (-9 : Int32) → B_X7_passes_156 G40 s0 x1 x2 x3 x4 x6_10 x7 x8 x5 Q)))))) ∧ (¬ (s0.1 1) ≤ x10 → wp_X7_has x7 x10 (fun r_14 => ((r_14 = 0 → B_X7_passes_95 G40 G66 s0 x1 x2 x3 x4 x5 x6 x7 x9 x10 ((10 : Int32) - x3) x8 Q) ∧ (¬ r_14 = 0 → B_X7_passes_95 G40 G66 s0 x1 x2 x3 x4 x5 x6 x7 x9 x10 x3 x8 Q)))))
def B_X7_passes_66 (G40 : (Int32 × Int32 × Int32 × Int32 × Int32 × Int32 × Int32) → Prop) (s0 : CS) (x1 : Int32) (x2 : Int32) (x3 : Int32) (x4 : Int32) (x5 : Int32) (x6 : Int32) (x7 : Int32) (x8 : Int32) (x9 : Int32) (x10 : Int32) (Q : Int32 → Prop) : Prop := LOOP (fun (G66 : (Int32 × Int32 × Int32 × Int32 × Int32 × Int32 × Int32 × Int32 × Int32 × Int32) → Prop) z => LB_X7_passes_66 G66 G40 s0 z.1 z.2.1 z.2.2.1 z.2.2.2.1 z.2.2.2.2.1 z.2.2.2.2.2.1 z.2.2.2.2.2.2.1 z.2.2.2.2.2.2.2.1 z.2.2.2.2.2.2.2.2.1 z.2.2.2.2.2.2.2.2.2 Q) (x1, x2, x3, x4, x5, x6, x7, x8, x9, x10)
def LB_X7_passes_40 (G40 : (Int32 × Int32 × Int32 × Int32 × Int32 × Int32 × Int32) → Prop) (s0 : CS) (x1 : Int32) (x2 : Int32) (x3 : Int32) (x4 : Int32) (x5 : Int32) (x6 : Int32) (x7 : Int32) (Q : Int32 → Prop) : Prop := ((((1 : Int32) <<< ((s0.1 1) &&& 31)) ≤ x7 → wp_X7_common x5 x6 (fun r_17 => ((x4 = 0 → ¬ r_17 = 0 ∧ Q (x6 / r_17)) ∧ (¬ x4 = 0 → ¬ r_17 = 0 ∧ Q (x5 / r_17))))) ∧ (¬ ((1 : Int32) <<< ((s0.1 1) &&& 31)) ≤ x7 → wp_X7_of (0 : Int32) (8 : Int32) s0 (fun r_21 => B_X7_passes_66 G40 s0 x1 x2 x3 x4 x5 x6 x7 (1 : Int32) r_21 (0 : Int32) Q)))
def B_X7_passes_40 (s0 : CS) (x1 : Int32) (x2 : Int32) (x3 : Int32) (x4 : Int32) (x5 : Int32) (x6 : Int32) (x7 : Int32) (Q : Int32 → Prop) : Prop := LOOP (fun (G40 : (Int32 × Int32 × Int32 × Int32 × Int32 × Int32 × Int32) → Prop) z => LB_X7_passes_40 G40 s0 z.1 z.2.1 z.2.2.1 z.2.2.2.1 z.2.2.2.2.1 z.2.2.2.2.2.1 z.2.2.2.2.2.2 Q) (x1, x2, x3, x4, x5, x6, x7)
def wp_X7_passes (p0 : Int32) (p1 : Int32) (p2 : Int32) (p3 : Int32) (s0 : CS) (Q : Int32 → Prop) : Prop := wp_X7_isCell p0 (fun r_22 => ((r_22 = 0 → Q (-1 : Int32)) ∧ (¬ r_22 = 0 → wp_X7_isCell p1 (fun r_24 => ((¬ r_24 = 0 → wp_X7_in (p2.toInt64) (0 : Int64) (10 : Int64) (fun r_26 => ((¬ r_26 = 0 → B_X7_passes_40 s0 p0 p1 p2 p3 (0 : Int32) (0 : Int32) (0 : Int32) Q) ∧ (r_26 = 0 → Q (-2 : Int32))))) ∧ (r_24 = 0 → Q (-1 : Int32)))))))
set_option maxHeartbeats 4000000 in
set_option maxRecDepth 100000 in
theorem c_X7_passes (l : Launch) (D : va_G) (cI cZ cW : ClassId) (q0 : Nat → Nat) (p0 : Int32) (p1 : Int32) (p2 : Int32) (p3 : Int32) (s0 : CS) (Q : Int32 → Prop) (hf : wp_X7_passes p0 p1 p2 p3 s0 Q) : Met l yX7_passes (wsA yX7_passes cX7_passes 11 (some .int)) ({ frames := 2, cells := 0, slots := 0, locals := 47 }) (PR D cI cZ cW [.ref (q0 0), .int p0, .int p1, .int p2, .int p3] (wM cI cZ q0 s0)) (vp_Si Q) 0 0 (fun _ => False) := by
  refine Met.ofW (cc := cX7_passes) (maxL := 11) (ret := (some .int)) (by decide) rfl ?_
  intro p e s m args below meth c s₁ B hml hv
  obtain ⟨rfl, hP, hK⟩ := hv
  have hx := B.exec
  have hb := B.bytes
  have hr := B.returns
  have hts := atoms_spec (ws := (wsA yX7_passes cX7_passes 11 (some .int))) B.pre
  have ht : ∀ w ∈ lw_g, w.before _ s = true := fun w h => hts w (List.mem_cons_of_mem _ h)
  have hown : s.vm.findClass RX7 = some m.cls := findClass_of_methodNamed B.named
  have hlocks := B.notSynchronized
  have hl := lv_entry ([.ref (q0 0), .int p0, .int p1, .int p2, .int p3]) (n := 11) (Nat.le_of_ble_eq_true rfl)
  rw [lg_entry_eq]
  generalize (lg_sl ([.ref (q0 0), .int p0, .int p1, .int p2, .int p3]) ++ List.replicate (11 - (lg_sl ([.ref (q0 0), .int p0, .int p1, .int p2, .int p3])).length) Slot.unset).toArray = ls at hl ⊢
  have hl : lv_has ls 11 [(0, .ref (q0 0)), (1, .int p0), (2, .int p1), (3, .int p2), (4, .int p3)] := hl
  unfold wp_X7_passes at hf
  have k_40 : ∀ (x1 : Int32) (x2 : Int32) (x3 : Int32) (x4 : Int32) (x5 : Int32) (x6 : Int32) (x7 : Int32) (ls : Array Slot), B_X7_passes_40 s0 x1 x2 x3 x4 x5 x6 x7 Q → lv_has ls 11 [(0, .ref (q0 0)), (1, .int x1), (2, .int x2), (3, .int x3), (4, .int x4), (5, .int x5), (6, .int x6), (7, .int x7)] → W p l e (headSpec (wsA yX7_passes cX7_passes 11 (some .int)) ({ frames := 2, cells := 0, slots := 0, locals := 47 })).room s m (#[.ref (q0 0), .int p0, .int p1, .int p2, .int p3] : Array Value) below meth c s.heap [] 0 0 (MQ below (vp_Si Q) (#[.ref (q0 0), .int p0, .int p1, .int p2, .int p3] : Array Value) s 0 0 (fun _ => False)) (F0 m 40 ls []) := by
    intro x1 x2 x3 x4 x5 x6 x7 ls hf hl
    unfold B_X7_passes_40 at hf
    obtain ⟨I_40, ⟨n0_40, hI0_40⟩, hst_40⟩ := hf
    have main_40 : ∀ (n : Nat) (x1 : Int32) (x2 : Int32) (x3 : Int32) (x4 : Int32) (x5 : Int32) (x6 : Int32) (x7 : Int32) (ls : Array Slot), I_40 n (x1, x2, x3, x4, x5, x6, x7) → lv_has ls 11 [(0, .ref (q0 0)), (1, .int x1), (2, .int x2), (3, .int x3), (4, .int x4), (5, .int x5), (6, .int x6), (7, .int x7)] → W p l e (headSpec (wsA yX7_passes cX7_passes 11 (some .int)) ({ frames := 2, cells := 0, slots := 0, locals := 47 })).room s m (#[.ref (q0 0), .int p0, .int p1, .int p2, .int p3] : Array Value) below meth c s.heap [] 0 0 (MQ below (vp_Si Q) (#[.ref (q0 0), .int p0, .int p1, .int p2, .int p3] : Array Value) s 0 0 (fun _ => False)) (F0 m 40 ls []) := by
      intro n
      induction n using Nat.strongRecOn with
      | _ n_40 ih_40 =>
      intro x1 x2 x3 x4 x5 x6 x7 ls hI hl
      have hf : LB_X7_passes_40 (fun z => ∃ k, k < n_40 ∧ I_40 k z) s0 x1 x2 x3 x4 x5 x6 x7 Q := hst_40 n_40 (x1, x2, x3, x4, x5, x6, x7) hI
      have hG_40 : ∀ (x1 : Int32) (x2 : Int32) (x3 : Int32) (x4 : Int32) (x5 : Int32) (x6 : Int32) (x7 : Int32) (ls : Array Slot), (∃ k, k < n_40 ∧ I_40 k (x1, x2, x3, x4, x5, x6, x7)) → lv_has ls 11 [(0, .ref (q0 0)), (1, .int x1), (2, .int x2), (3, .int x3), (4, .int x4), (5, .int x5), (6, .int x6), (7, .int x7)] → W p l e (headSpec (wsA yX7_passes cX7_passes 11 (some .int)) ({ frames := 2, cells := 0, slots := 0, locals := 47 })).room s m (#[.ref (q0 0), .int p0, .int p1, .int p2, .int p3] : Array Value) below meth c s.heap [] 0 0 (MQ below (vp_Si Q) (#[.ref (q0 0), .int p0, .int p1, .int p2, .int p3] : Array Value) s 0 0 (fun _ => False)) (F0 m 40 ls []) := by
        rintro x1 x2 x3 x4 x5 x6 x7 ls ⟨k, hk, hI⟩ hl
        exact ih_40 k hk x1 x2 x3 x4 x5 x6 x7 ls hI hl
      unfold LB_X7_passes_40 at hf
      have k_162 : ∀ (x1 : Int32) (x2 : Int32) (x3 : Int32) (x4 : Int32) (x6 : Int32) (x7 : Int32) (t0 : Int32) (t1 : Int32) (ls : Array Slot), B_X7_passes_162 (fun z => ∃ k, k < n_40 ∧ I_40 k z) s0 x1 x2 x3 x4 x6 x7 t0 t1 Q → lv_has ls 11 [(0, .ref (q0 0)), (1, .int x1), (2, .int x2), (3, .int x3), (4, .int x4), (6, .int x6), (7, .int x7)] → W p l e (headSpec (wsA yX7_passes cX7_passes 11 (some .int)) ({ frames := 2, cells := 0, slots := 0, locals := 47 })).room s m (#[.ref (q0 0), .int p0, .int p1, .int p2, .int p3] : Array Value) below meth c s.heap [] 0 0 (MQ below (vp_Si Q) (#[.ref (q0 0), .int p0, .int p1, .int p2, .int p3] : Array Value) s 0 0 (fun _ => False)) (F0 m 162 ls [.int t0, .int t1]) := by
        intro x1 x2 x3 x4 x6 x7 t0 t1 ls hf hl
        unfold B_X7_passes_162 at hf
        refine lv_iadd hx hb dX7_passes_162 ?_
        refine lv_topi (fun x5_1 ex5_1 => ?_)
        have hf := hf x5_1 ex5_1
        refine lv_istore (lv' := [(5, .int x5_1), (0, .ref (q0 0)), (1, .int x1), (2, .int x2), (3, .int x3), (4, .int x4), (6, .int x6), (7, .int x7)]) hx hb dX7_passes_163 hl (by decide) rfl (fun ls hl => ?_)
        obtain ⟨x7_2, ex7_2⟩ : ∃ y : Int32, y = x7 + (1 : Int32) := ⟨_, rfl⟩
        have hf := hf x7_2 ex7_2
        refine lv_iinc (v := x7_2) (lv' := [(7, .int x7_2), (5, .int x5_1), (0, .ref (q0 0)), (1, .int x1), (2, .int x2), (3, .int x3), (4, .int x4), (6, .int x6)]) hx hb dX7_passes_165 hl (k := 7) rfl (by rw [ex7_2]; rfl) (by decide) rfl (fun ls hl => ?_)
        refine lv_goto (tgt := 40) hx hb dX7_passes_168 (by decide) ?_
        exact hG_40 x1 x2 x3 x4 x5_1 x6 x7_2 ls hf (lv_sub hl [2, 3, 4, 5, 6, 1, 7, 0] rfl)
      have k_156 : ∀ (x1 : Int32) (x2 : Int32) (x3 : Int32) (x4 : Int32) (x6 : Int32) (x7 : Int32) (x8 : Int32) (t0 : Int32) (ls : Array Slot), B_X7_passes_156 (fun z => ∃ k, k < n_40 ∧ I_40 k z) s0 x1 x2 x3 x4 x6 x7 x8 t0 Q → lv_has ls 11 [(0, .ref (q0 0)), (1, .int x1), (2, .int x2), (3, .int x3), (4, .int x4), (6, .int x6), (7, .int x7), (8, .int x8)] → W p l e (headSpec (wsA yX7_passes cX7_passes 11 (some .int)) ({ frames := 2, cells := 0, slots := 0, locals := 47 })).room s m (#[.ref (q0 0), .int p0, .int p1, .int p2, .int p3] : Array Value) below meth c s.heap [] 0 0 (MQ below (vp_Si Q) (#[.ref (q0 0), .int p0, .int p1, .int p2, .int p3] : Array Value) s 0 0 (fun _ => False)) (F0 m 156 ls [.int t0]) := by
        intro x1 x2 x3 x4 x6 x7 x8 t0 ls hf hl
        unfold B_X7_passes_156 at hf
        refine lv_iload hx hb dX7_passes_156 (lv_at hl 7 rfl) ?_
        refine lv_goto (tgt := 162) hx hb dX7_passes_158 (by decide) ?_
        exact k_162 x1 x2 x3 x4 x6 x7 x8 t0 ls hf (lv_sub hl [0, 1, 2, 3, 4, 5, 6] rfl)
      have k_66 : ∀ (x1 : Int32) (x2 : Int32) (x3 : Int32) (x4 : Int32) (x5 : Int32) (x6 : Int32) (x7 : Int32) (x8 : Int32) (x9 : Int32) (x10 : Int32) (ls : Array Slot), B_X7_passes_66 (fun z => ∃ k, k < n_40 ∧ I_40 k z) s0 x1 x2 x3 x4 x5 x6 x7 x8 x9 x10 Q → lv_has ls 11 [(0, .ref (q0 0)), (1, .int x1), (2, .int x2), (3, .int x3), (4, .int x4), (5, .int x5), (6, .int x6), (7, .int x7), (8, .int x8), (9, .int x9), (10, .int x10)] → W p l e (headSpec (wsA yX7_passes cX7_passes 11 (some .int)) ({ frames := 2, cells := 0, slots := 0, locals := 47 })).room s m (#[.ref (q0 0), .int p0, .int p1, .int p2, .int p3] : Array Value) below meth c s.heap [] 0 0 (MQ below (vp_Si Q) (#[.ref (q0 0), .int p0, .int p1, .int p2, .int p3] : Array Value) s 0 0 (fun _ => False)) (F0 m 66 ls []) := by
        intro x1 x2 x3 x4 x5 x6 x7 x8 x9 x10 ls hf hl
        unfold B_X7_passes_66 at hf
        obtain ⟨I_66, ⟨n0_66, hI0_66⟩, hst_66⟩ := hf
        have main_66 : ∀ (n : Nat) (x1 : Int32) (x2 : Int32) (x3 : Int32) (x4 : Int32) (x5 : Int32) (x6 : Int32) (x7 : Int32) (x8 : Int32) (x9 : Int32) (x10 : Int32) (ls : Array Slot), I_66 n (x1, x2, x3, x4, x5, x6, x7, x8, x9, x10) → lv_has ls 11 [(0, .ref (q0 0)), (1, .int x1), (2, .int x2), (3, .int x3), (4, .int x4), (5, .int x5), (6, .int x6), (7, .int x7), (8, .int x8), (9, .int x9), (10, .int x10)] → W p l e (headSpec (wsA yX7_passes cX7_passes 11 (some .int)) ({ frames := 2, cells := 0, slots := 0, locals := 47 })).room s m (#[.ref (q0 0), .int p0, .int p1, .int p2, .int p3] : Array Value) below meth c s.heap [] 0 0 (MQ below (vp_Si Q) (#[.ref (q0 0), .int p0, .int p1, .int p2, .int p3] : Array Value) s 0 0 (fun _ => False)) (F0 m 66 ls []) := by
          intro n
          induction n using Nat.strongRecOn with
          | _ n_66 ih_66 =>
          intro x1 x2 x3 x4 x5 x6 x7 x8 x9 x10 ls hI hl
          have hf : LB_X7_passes_66 (fun z => ∃ k, k < n_66 ∧ I_66 k z) (fun z => ∃ k, k < n_40 ∧ I_40 k z) s0 x1 x2 x3 x4 x5 x6 x7 x8 x9 x10 Q := hst_66 n_66 (x1, x2, x3, x4, x5, x6, x7, x8, x9, x10) hI
          have hG_66 : ∀ (x1 : Int32) (x2 : Int32) (x3 : Int32) (x4 : Int32) (x5 : Int32) (x6 : Int32) (x7 : Int32) (x8 : Int32) (x9 : Int32) (x10 : Int32) (ls : Array Slot), (∃ k, k < n_66 ∧ I_66 k (x1, x2, x3, x4, x5, x6, x7, x8, x9, x10)) → lv_has ls 11 [(0, .ref (q0 0)), (1, .int x1), (2, .int x2), (3, .int x3), (4, .int x4), (5, .int x5), (6, .int x6), (7, .int x7), (8, .int x8), (9, .int x9), (10, .int x10)] → W p l e (headSpec (wsA yX7_passes cX7_passes 11 (some .int)) ({ frames := 2, cells := 0, slots := 0, locals := 47 })).room s m (#[.ref (q0 0), .int p0, .int p1, .int p2, .int p3] : Array Value) below meth c s.heap [] 0 0 (MQ below (vp_Si Q) (#[.ref (q0 0), .int p0, .int p1, .int p2, .int p3] : Array Value) s 0 0 (fun _ => False)) (F0 m 66 ls []) := by
            rintro x1 x2 x3 x4 x5 x6 x7 x8 x9 x10 ls ⟨k, hk, hI⟩ hl
            exact ih_66 k hk x1 x2 x3 x4 x5 x6 x7 x8 x9 x10 ls hI hl
          unfold LB_X7_passes_66 at hf
          have k_121 : ∀ (x1 : Int32) (x2 : Int32) (x3 : Int32) (x4 : Int32) (x5 : Int32) (x6 : Int32) (x7 : Int32) (x8 : Int32) (x10 : Int32) (t0 : Int32) (t1 : Int32) (ls : Array Slot), B_X7_passes_121 (fun z => ∃ k, k < n_40 ∧ I_40 k z) (fun z => ∃ k, k < n_66 ∧ I_66 k z) s0 x1 x2 x3 x4 x5 x6 x7 x8 x10 t0 t1 Q → lv_has ls 11 [(0, .ref (q0 0)), (1, .int x1), (2, .int x2), (3, .int x3), (4, .int x4), (5, .int x5), (6, .int x6), (7, .int x7), (8, .int x8), (10, .int x10)] → W p l e (headSpec (wsA yX7_passes cX7_passes 11 (some .int)) ({ frames := 2, cells := 0, slots := 0, locals := 47 })).room s m (#[.ref (q0 0), .int p0, .int p1, .int p2, .int p3] : Array Value) below meth c s.heap [] 0 0 (MQ below (vp_Si Q) (#[.ref (q0 0), .int p0, .int p1, .int p2, .int p3] : Array Value) s 0 0 (fun _ => False)) (F0 m 121 ls [.int t0, .int t1]) := by
            intro x1 x2 x3 x4 x5 x6 x7 x8 x10 t0 t1 ls hf hl
            unfold B_X7_passes_121 at hf
            refine lv_ior hx hb dX7_passes_121 ?_
            refine lv_topi (fun x9_3 ex9_3 => ?_)
            have hf := hf x9_3 ex9_3
            refine lv_istore (lv' := [(9, .int x9_3), (0, .ref (q0 0)), (1, .int x1), (2, .int x2), (3, .int x3), (4, .int x4), (5, .int x5), (6, .int x6), (7, .int x7), (8, .int x8), (10, .int x10)]) hx hb dX7_passes_122 hl (by decide) rfl (fun ls hl => ?_)
            obtain ⟨x10_4, ex10_4⟩ : ∃ y : Int32, y = x10 + (1 : Int32) := ⟨_, rfl⟩
            have hf := hf x10_4 ex10_4
            refine lv_iinc (v := x10_4) (lv' := [(10, .int x10_4), (9, .int x9_3), (0, .ref (q0 0)), (1, .int x1), (2, .int x2), (3, .int x3), (4, .int x4), (5, .int x5), (6, .int x6), (7, .int x7), (8, .int x8)]) hx hb dX7_passes_124 hl (k := 10) rfl (by rw [ex10_4]; rfl) (by decide) rfl (fun ls hl => ?_)
            refine lv_goto (tgt := 66) hx hb dX7_passes_127 (by decide) ?_
            exact hG_66 x1 x2 x3 x4 x5 x6 x7 x8 x9_3 x10_4 ls hf (lv_sub hl [2, 3, 4, 5, 6, 7, 8, 9, 10, 1, 0] rfl)
          have k_95 : ∀ (x1 : Int32) (x2 : Int32) (x3 : Int32) (x4 : Int32) (x5 : Int32) (x6 : Int32) (x7 : Int32) (x9 : Int32) (x10 : Int32) (t0 : Int32) (t1 : Int32) (ls : Array Slot), B_X7_passes_95 (fun z => ∃ k, k < n_40 ∧ I_40 k z) (fun z => ∃ k, k < n_66 ∧ I_66 k z) s0 x1 x2 x3 x4 x5 x6 x7 x9 x10 t0 t1 Q → lv_has ls 11 [(0, .ref (q0 0)), (1, .int x1), (2, .int x2), (3, .int x3), (4, .int x4), (5, .int x5), (6, .int x6), (7, .int x7), (9, .int x9), (10, .int x10)] → W p l e (headSpec (wsA yX7_passes cX7_passes 11 (some .int)) ({ frames := 2, cells := 0, slots := 0, locals := 47 })).room s m (#[.ref (q0 0), .int p0, .int p1, .int p2, .int p3] : Array Value) below meth c s.heap [] 0 0 (MQ below (vp_Si Q) (#[.ref (q0 0), .int p0, .int p1, .int p2, .int p3] : Array Value) s 0 0 (fun _ => False)) (F0 m 95 ls [.int t0, .int t1]) := by
            intro x1 x2 x3 x4 x5 x6 x7 x9 x10 t0 t1 ls hf hl
            unfold B_X7_passes_95 at hf
            refine lv_imul hx hb dX7_passes_95 ?_
            refine lv_topi (fun x8_5 ex8_5 => ?_)
            have hf := hf x8_5 ex8_5
            refine lv_istore (lv' := [(8, .int x8_5), (0, .ref (q0 0)), (1, .int x1), (2, .int x2), (3, .int x3), (4, .int x4), (5, .int x5), (6, .int x6), (7, .int x7), (9, .int x9), (10, .int x10)]) hx hb dX7_passes_96 hl (by decide) rfl (fun ls hl => ?_)
            refine lv_iload hx hb dX7_passes_98 (lv_at hl 9 rfl) ?_
            refine lv_iload hx hb dX7_passes_100 (lv_at hl 8 rfl) ?_
            refine lv_iload hx hb dX7_passes_102 (lv_at hl 10 rfl) ?_
            have hPc : va_P D classes ([] : va_W) s.heap := hP.sub [] rfl
            refine vp_callSi (W.runS (As := [.int x7, .int x10]) (rest := [.int x9]) ⟨hx, hb, hml, hown, hts⟩ (c_X7_has l D cI cZ cW  x7 x10 _ hf) ⟨callB_of 2 hts (gA tw_771) rfl rfl rfl (ht _ tw_7) (ht _ tw_769) hd_X7_has ⟨Nat.le_of_ble_eq_true rfl, Nat.le_of_ble_eq_true rfl⟩, ht _ tw_770⟩ ⟨PR_blind, fun U hU hW => PR_mk hPc hK hU hW⟩ rfl rfl hl.1 rfl (lv_room (Nat.le_of_ble_eq_true rfl)) dX7_passes_104 ⟨Nat.zero_le _, Nat.zero_le _⟩) (fun r_6 hf => ?_)
            refine lv_if_eq (tgt := 114) hx hb dX7_passes_107 (by decide) (fun c_7 => ?_) (fun c_7 => ?_)
            · have hf := hf.1 c_7
              refine lv_aload_n hx hb dX7_passes_114 rfl (lv_at hl 1 rfl) ?_
              refine lv_iconst (v := (0 : Int32)) hx hb dX7_passes_115 (by decide) ?_
              refine lv_iload hx hb dX7_passes_116 (lv_at hl 10 rfl) ?_
              have hPc : va_P D classes (wM cI cZ q0 s0) s.heap := hP
              refine vp_callSi (W.runV (As := [.int (0 : Int32), .int x10]) (rest := [.int x9]) ⟨hx, hb, hml, hown, hts⟩ (c_X7_of l D cI cZ cW q0 (0 : Int32) x10 s0 _ hf) ⟨callB_of 2 hts (gA tw_807) rfl rfl rfl (ht _ tw_7) (ht _ tw_804) hd_X7_of ⟨Nat.le_of_ble_eq_true rfl, Nat.le_of_ble_eq_true rfl⟩, ht _ tw_806, ht _ twp_25⟩ ⟨PR_blind, va_recv hK hP (ci := 5) (q0 := 0) rfl eM_0, fun U hU hW => PR_mk hPc hK hU hW⟩ rfl rfl hl.1 rfl (lv_room (Nat.le_of_ble_eq_true rfl)) dX7_passes_118 ⟨Nat.zero_le _, Nat.zero_le _⟩) (fun r_8 hf => ?_)
              exact k_121 x1 x2 x3 x4 x5 x6 x7 x8_5 x10 r_8 x9 ls hf (lv_sub hl [1, 2, 3, 4, 5, 6, 7, 8, 0, 10] rfl)
            · have hf := hf.2 c_7
              refine lv_iconst (v := (0 : Int32)) hx hb dX7_passes_110 (by decide) ?_
              refine lv_goto (tgt := 121) hx hb dX7_passes_111 (by decide) ?_
              exact k_121 x1 x2 x3 x4 x5 x6 x7 x8_5 x10 (0 : Int32) x9 ls hf (lv_sub hl [1, 2, 3, 4, 5, 6, 7, 8, 0, 10] rfl)
          refine lv_iload hx hb dX7_passes_66 (lv_at hl 10 rfl) ?_
          refine lv_aload_n hx hb dX7_passes_68 rfl (lv_at hl 0 rfl) ?_
          refine va_get (D := D) (ci := 5) (v := .int (s0.1 1)) (C := RX7) (T := TX7) (N := 28) hx hb ht inX7 hown hK hP 0 eM_0 rfl 1 (by decide) (ht _ tw_656) (fun _ h9 => h9) rfl dX7_passes_69 ?_
          refine lv_icmp_ge (tgt := 130) hx hb dX7_passes_72 (by decide) (fun c_9 => ?_) (fun c_9 => ?_)
          · have hf := hf.1 c_9
            refine lv_iload hx hb dX7_passes_130 (lv_at hl 6 rfl) ?_
            refine lv_iload hx hb dX7_passes_132 (lv_at hl 8 rfl) ?_
            refine lv_iadd hx hb dX7_passes_134 ?_
            refine lv_topi (fun x6_10 ex6_10 => ?_)
            have hf := hf x6_10 ex6_10
            refine lv_istore (lv' := [(6, .int x6_10), (0, .ref (q0 0)), (1, .int x1), (2, .int x2), (3, .int x3), (4, .int x4), (5, .int x5), (7, .int x7), (8, .int x8), (9, .int x9), (10, .int x10)]) hx hb dX7_passes_135 hl (by decide) rfl (fun ls hl => ?_)
            refine lv_iload hx hb dX7_passes_137 (lv_at hl 6 rfl) ?_
            refine lv_iload_n hx hb dX7_passes_139 rfl (lv_at hl 2 rfl) ?_
            refine lv_iload_n hx hb dX7_passes_140 rfl (lv_at hl 3 rfl) ?_
            refine lv_icmp_eq (tgt := 156) hx hb dX7_passes_141 (by decide) (fun c_11 => ?_) (fun c_11 => ?_)
            · have hf := hf.1 c_11
              exact k_156 x1 x2 x3 x4 x6_10 x7 x8 x5 ls hf (lv_sub hl [1, 2, 3, 4, 5, 0, 7, 8] rfl)
            · have hf := hf.2 c_11
              refine lv_iload_n hx hb dX7_passes_144 rfl (lv_at hl 2 rfl) ?_
              refine lv_iload_n hx hb dX7_passes_145 rfl (lv_at hl 3 rfl) ?_
              refine lv_iload hx hb dX7_passes_146 (lv_at hl 9 rfl) ?_
              have hPc : va_P D classes ([] : va_W) s.heap := hP.sub [] rfl
              refine vp_callSi (W.runS (As := [.int x1, .int x2, .int x9]) (rest := [.int x5]) ⟨hx, hb, hml, hown, hts⟩ (c_X7_stepsBy l D cI cZ cW  x1 x2 x9 _ hf) ⟨callB_of 3 hts (gA tw_907) rfl rfl rfl (ht _ tw_7) (ht _ tw_905) hd_X7_stepsBy ⟨Nat.le_of_ble_eq_true rfl, Nat.le_of_ble_eq_true rfl⟩, ht _ tw_906⟩ ⟨PR_blind, fun U hU hW => PR_mk hPc hK hU hW⟩ rfl rfl hl.1 rfl (lv_room (Nat.le_of_ble_eq_true rfl)) dX7_passes_148 ⟨Nat.zero_le _, Nat.zero_le _⟩) (fun r_12 hf => ?_)
              refine lv_bipush (v := (-9 : Int32)) hx hb dX7_passes_151 (by decide) ?_
              refine lv_icmp_eq (tgt := 161) hx hb dX7_passes_153 (by decide) (fun c_13 => ?_) (fun c_13 => ?_)
              · have hf := hf.1 c_13
                refine lv_iconst (v := (0 : Int32)) hx hb dX7_passes_161 (by decide) ?_
                exact k_162 x1 x2 x3 x4 x6_10 x7 (0 : Int32) x5 ls hf (lv_sub hl [1, 2, 3, 4, 5, 0, 7] rfl)
              · have hf := hf.2 c_13
                exact k_156 x1 x2 x3 x4 x6_10 x7 x8 x5 ls hf (lv_sub hl [1, 2, 3, 4, 5, 0, 7, 8] rfl)
          · have hf := hf.2 c_9
            refine lv_iload hx hb dX7_passes_75 (lv_at hl 8 rfl) ?_
            refine lv_iload hx hb dX7_passes_77 (lv_at hl 7 rfl) ?_
            refine lv_iload hx hb dX7_passes_79 (lv_at hl 10 rfl) ?_
            have hPc : va_P D classes ([] : va_W) s.heap := hP.sub [] rfl
            refine vp_callSi (W.runS (As := [.int x7, .int x10]) (rest := [.int x8]) ⟨hx, hb, hml, hown, hts⟩ (c_X7_has l D cI cZ cW  x7 x10 _ hf) ⟨callB_of 2 hts (gA tw_771) rfl rfl rfl (ht _ tw_7) (ht _ tw_769) hd_X7_has ⟨Nat.le_of_ble_eq_true rfl, Nat.le_of_ble_eq_true rfl⟩, ht _ tw_770⟩ ⟨PR_blind, fun U hU hW => PR_mk hPc hK hU hW⟩ rfl rfl hl.1 rfl (lv_room (Nat.le_of_ble_eq_true rfl)) dX7_passes_81 ⟨Nat.zero_le _, Nat.zero_le _⟩) (fun r_14 hf => ?_)
            refine lv_if_eq (tgt := 91) hx hb dX7_passes_84 (by decide) (fun c_15 => ?_) (fun c_15 => ?_)
            · have hf := hf.1 c_15
              refine lv_bipush (v := (10 : Int32)) hx hb dX7_passes_91 (by decide) ?_
              refine lv_iload_n hx hb dX7_passes_93 rfl (lv_at hl 3 rfl) ?_
              refine lv_isub hx hb dX7_passes_94 ?_
              exact k_95 x1 x2 x3 x4 x5 x6 x7 x9 x10 ((10 : Int32) - x3) x8 ls hf (lv_sub hl [0, 1, 2, 3, 4, 5, 6, 7, 9, 10] rfl)
            · have hf := hf.2 c_15
              refine lv_iload_n hx hb dX7_passes_87 rfl (lv_at hl 3 rfl) ?_
              refine lv_goto (tgt := 95) hx hb dX7_passes_88 (by decide) ?_
              exact k_95 x1 x2 x3 x4 x5 x6 x7 x9 x10 x3 x8 ls hf (lv_sub hl [0, 1, 2, 3, 4, 5, 6, 7, 9, 10] rfl)
        exact main_66 n0_66 x1 x2 x3 x4 x5 x6 x7 x8 x9 x10 ls hI0_66 hl
      refine lv_iload hx hb dX7_passes_40 (lv_at hl 7 rfl) ?_
      refine lv_iconst (v := (1 : Int32)) hx hb dX7_passes_42 (by decide) ?_
      refine lv_aload_n hx hb dX7_passes_43 rfl (lv_at hl 0 rfl) ?_
      refine va_get (D := D) (ci := 5) (v := .int (s0.1 1)) (C := RX7) (T := TX7) (N := 28) hx hb ht inX7 hown hK hP 0 eM_0 rfl 1 (by decide) (ht _ tw_656) (fun _ h9 => h9) rfl dX7_passes_44 ?_
      refine lv_ishl hx hb dX7_passes_47 ?_
      refine lv_icmp_ge (tgt := 171) hx hb dX7_passes_48 (by decide) (fun c_16 => ?_) (fun c_16 => ?_)
      · have hf := hf.1 c_16
        refine lv_iload hx hb dX7_passes_171 (lv_at hl 5 rfl) ?_
        refine lv_iload hx hb dX7_passes_173 (lv_at hl 6 rfl) ?_
        have hPc : va_P D classes ([] : va_W) s.heap := hP.sub [] rfl
        refine vp_callSi (W.runS (As := [.int x5, .int x6]) (rest := []) ⟨hx, hb, hml, hown, hts⟩ (c_X7_common l D cI cZ cW  x5 x6 _ hf) ⟨callB_of 2 hts (gA tw_984) rfl rfl rfl (ht _ tw_7) (ht _ tw_982) hd_X7_common ⟨Nat.le_of_ble_eq_true rfl, Nat.le_of_ble_eq_true rfl⟩, ht _ tw_983⟩ ⟨PR_blind, fun U hU hW => PR_mk hPc hK hU hW⟩ rfl rfl hl.1 rfl (lv_room (Nat.le_of_ble_eq_true rfl)) dX7_passes_175 ⟨Nat.zero_le _, Nat.zero_le _⟩) (fun r_17 hf => ?_)
        refine lv_istore (lv' := [(7, .int r_17), (0, .ref (q0 0)), (1, .int x1), (2, .int x2), (3, .int x3), (4, .int x4), (5, .int x5), (6, .int x6)]) hx hb dX7_passes_178 hl (by decide) rfl (fun ls hl => ?_)
        refine lv_iload hx hb dX7_passes_180 (lv_at hl 5 rfl) ?_
        refine lv_if_eq (tgt := 193) hx hb dX7_passes_182 (by decide) (fun c_18 => ?_) (fun c_18 => ?_)
        · have hf := hf.1 c_18
          refine lv_iload hx hb dX7_passes_193 (lv_at hl 7 rfl) ?_
          refine lv_iload hx hb dX7_passes_195 (lv_at hl 0 rfl) ?_
          obtain ⟨hz_19, hf⟩ := hf
          refine lv_idiv hx hb dX7_passes_197 hz_19 ?_
          exact W.iret (v := (x6 / r_17)) hx hb hr (fun t ht hW => ⟨(x6 / r_17), rfl, hf, ht⟩) (fun q h => absurd h List.not_mem_nil) dX7_passes_198
        · have hf := hf.2 c_18
          refine lv_iload hx hb dX7_passes_185 (lv_at hl 6 rfl) ?_
          refine lv_iload hx hb dX7_passes_187 (lv_at hl 0 rfl) ?_
          obtain ⟨hz_20, hf⟩ := hf
          refine lv_idiv hx hb dX7_passes_189 hz_20 ?_
          refine lv_goto (tgt := 198) hx hb dX7_passes_190 (by decide) ?_
          exact W.iret (v := (x5 / r_17)) hx hb hr (fun t ht hW => ⟨(x5 / r_17), rfl, hf, ht⟩) (fun q h => absurd h List.not_mem_nil) dX7_passes_198
      · have hf := hf.2 c_16
        refine lv_iconst (v := (1 : Int32)) hx hb dX7_passes_51 (by decide) ?_
        refine lv_istore (lv' := [(8, .int (1 : Int32)), (0, .ref (q0 0)), (1, .int x1), (2, .int x2), (3, .int x3), (4, .int x4), (5, .int x5), (6, .int x6), (7, .int x7)]) hx hb dX7_passes_52 hl (by decide) rfl (fun ls hl => ?_)
        refine lv_aload_n hx hb dX7_passes_54 rfl (lv_at hl 1 rfl) ?_
        refine lv_iconst (v := (0 : Int32)) hx hb dX7_passes_55 (by decide) ?_
        refine lv_bipush (v := (8 : Int32)) hx hb dX7_passes_56 (by decide) ?_
        have hPc : va_P D classes (wM cI cZ q0 s0) s.heap := hP
        refine vp_callSi (W.runV (As := [.int (0 : Int32), .int (8 : Int32)]) (rest := []) ⟨hx, hb, hml, hown, hts⟩ (c_X7_of l D cI cZ cW q0 (0 : Int32) (8 : Int32) s0 _ hf) ⟨callB_of 2 hts (gA tw_807) rfl rfl rfl (ht _ tw_7) (ht _ tw_804) hd_X7_of ⟨Nat.le_of_ble_eq_true rfl, Nat.le_of_ble_eq_true rfl⟩, ht _ tw_806, ht _ twp_25⟩ ⟨PR_blind, va_recv hK hP (ci := 5) (q0 := 0) rfl eM_0, fun U hU hW => PR_mk hPc hK hU hW⟩ rfl rfl hl.1 rfl (lv_room (Nat.le_of_ble_eq_true rfl)) dX7_passes_58 ⟨Nat.zero_le _, Nat.zero_le _⟩) (fun r_21 hf => ?_)
        refine lv_istore (lv' := [(9, .int r_21), (8, .int (1 : Int32)), (0, .ref (q0 0)), (1, .int x1), (2, .int x2), (3, .int x3), (4, .int x4), (5, .int x5), (6, .int x6), (7, .int x7)]) hx hb dX7_passes_61 hl (by decide) rfl (fun ls hl => ?_)
        refine lv_iconst (v := (0 : Int32)) hx hb dX7_passes_63 (by decide) ?_
        refine lv_istore (lv' := [(10, .int (0 : Int32)), (9, .int r_21), (8, .int (1 : Int32)), (0, .ref (q0 0)), (1, .int x1), (2, .int x2), (3, .int x3), (4, .int x4), (5, .int x5), (6, .int x6), (7, .int x7)]) hx hb dX7_passes_64 hl (by decide) rfl (fun ls hl => ?_)
        exact k_66 x1 x2 x3 x4 x5 x6 x7 (1 : Int32) r_21 (0 : Int32) ls hf (lv_sub hl [3, 4, 5, 6, 7, 8, 9, 10, 2, 1, 0] rfl)
    exact main_40 n0_40 x1 x2 x3 x4 x5 x6 x7 ls hI0_40 hl
  refine lv_iload_n hx hb dX7_passes_0 rfl (lv_at hl 1 rfl) ?_
  have hPc : va_P D classes ([] : va_W) s.heap := hP.sub [] rfl
  refine vp_callSi (W.runS (As := [.int p0]) (rest := []) ⟨hx, hb, hml, hown, hts⟩ (c_X7_isCell l D cI cZ cW  p0 _ hf) ⟨callB_of 1 hts (gA tw_814) rfl rfl rfl (ht _ tw_7) (ht _ tw_812) hd_X7_isCell ⟨Nat.le_of_ble_eq_true rfl, Nat.le_of_ble_eq_true rfl⟩, ht _ tw_813⟩ ⟨PR_blind, fun U hU hW => PR_mk hPc hK hU hW⟩ rfl rfl hl.1 rfl (lv_room (Nat.le_of_ble_eq_true rfl)) dX7_passes_1 ⟨Nat.zero_le _, Nat.zero_le _⟩) (fun r_22 hf => ?_)
  refine lv_if_eq (tgt := 14) hx hb dX7_passes_4 (by decide) (fun c_23 => ?_) (fun c_23 => ?_)
  · have hf := hf.1 c_23
    refine lv_iconst (v := (-1 : Int32)) hx hb dX7_passes_14 (by decide) ?_
    exact W.iret (v := (-1 : Int32)) hx hb hr (fun t ht hW => ⟨(-1 : Int32), rfl, hf, ht⟩) (fun q h => absurd h List.not_mem_nil) dX7_passes_15
  · have hf := hf.2 c_23
    refine lv_iload_n hx hb dX7_passes_7 rfl (lv_at hl 2 rfl) ?_
    have hPc : va_P D classes ([] : va_W) s.heap := hP.sub [] rfl
    refine vp_callSi (W.runS (As := [.int p1]) (rest := []) ⟨hx, hb, hml, hown, hts⟩ (c_X7_isCell l D cI cZ cW  p1 _ hf) ⟨callB_of 1 hts (gA tw_814) rfl rfl rfl (ht _ tw_7) (ht _ tw_812) hd_X7_isCell ⟨Nat.le_of_ble_eq_true rfl, Nat.le_of_ble_eq_true rfl⟩, ht _ tw_813⟩ ⟨PR_blind, fun U hU hW => PR_mk hPc hK hU hW⟩ rfl rfl hl.1 rfl (lv_room (Nat.le_of_ble_eq_true rfl)) dX7_passes_8 ⟨Nat.zero_le _, Nat.zero_le _⟩) (fun r_24 hf => ?_)
    refine lv_if_ne (tgt := 16) hx hb dX7_passes_11 (by decide) (fun c_25 => ?_) (fun c_25 => ?_)
    · have hf := hf.1 c_25
      refine lv_iload_n hx hb dX7_passes_16 rfl (lv_at hl 3 rfl) ?_
      refine lv_i2l (v := p2.toInt64) hx hb dX7_passes_17 rfl ?_
      refine lv_lconst (v := (0 : Int64)) hx hb dX7_passes_18 (by decide) ?_
      refine lv_ldc2 (v := (10 : Int64)) hx hb hown (ht _ tw_1001) dX7_passes_19 ?_
      have hPc : va_P D classes ([] : va_W) s.heap := hP.sub [] rfl
      refine vp_callSi (W.runS (As := [.long p2.toInt64, .long (0 : Int64), .long (10 : Int64)]) (rest := []) ⟨hx, hb, hml, hown, hts⟩ (c_X7_in l D cI cZ cW  (p2.toInt64) (0 : Int64) (10 : Int64) _ hf) ⟨callB_of 3 hts (gA tw_747) rfl rfl rfl (ht _ tw_7) (ht _ tw_745) hd_X7_in ⟨Nat.le_of_ble_eq_true rfl, Nat.le_of_ble_eq_true rfl⟩, ht _ tw_746⟩ ⟨PR_blind, fun U hU hW => PR_mk hPc hK hU hW⟩ rfl rfl hl.1 rfl (lv_room (Nat.le_of_ble_eq_true rfl)) dX7_passes_22 ⟨Nat.zero_le _, Nat.zero_le _⟩) (fun r_26 hf => ?_)
      refine lv_if_ne (tgt := 31) hx hb dX7_passes_25 (by decide) (fun c_27 => ?_) (fun c_27 => ?_)
      · have hf := hf.1 c_27
        refine lv_iconst (v := (0 : Int32)) hx hb dX7_passes_31 (by decide) ?_
        refine lv_istore (lv' := [(5, .int (0 : Int32)), (0, .ref (q0 0)), (1, .int p0), (2, .int p1), (3, .int p2), (4, .int p3)]) hx hb dX7_passes_32 hl (by decide) rfl (fun ls hl => ?_)
        refine lv_iconst (v := (0 : Int32)) hx hb dX7_passes_34 (by decide) ?_
        refine lv_istore (lv' := [(6, .int (0 : Int32)), (5, .int (0 : Int32)), (0, .ref (q0 0)), (1, .int p0), (2, .int p1), (3, .int p2), (4, .int p3)]) hx hb dX7_passes_35 hl (by decide) rfl (fun ls hl => ?_)
        refine lv_iconst (v := (0 : Int32)) hx hb dX7_passes_37 (by decide) ?_
        refine lv_istore (lv' := [(7, .int (0 : Int32)), (6, .int (0 : Int32)), (5, .int (0 : Int32)), (0, .ref (q0 0)), (1, .int p0), (2, .int p1), (3, .int p2), (4, .int p3)]) hx hb dX7_passes_38 hl (by decide) rfl (fun ls hl => ?_)
        exact k_40 p0 p1 p2 p3 (0 : Int32) (0 : Int32) (0 : Int32) ls hf (lv_sub hl [3, 4, 5, 6, 7, 2, 1, 0] rfl)
      · have hf := hf.2 c_27
        refine lv_bipush (v := (-2 : Int32)) hx hb dX7_passes_28 (by decide) ?_
        exact W.iret (v := (-2 : Int32)) hx hb hr (fun t ht hW => ⟨(-2 : Int32), rfl, hf, ht⟩) (fun q h => absurd h List.not_mem_nil) dX7_passes_30
    · have hf := hf.2 c_25
      refine lv_iconst (v := (-1 : Int32)) hx hb dX7_passes_14 (by decide) ?_
      exact W.iret (v := (-1 : Int32)) hx hb hr (fun t ht hW => ⟨(-1 : Int32), rfl, hf, ht⟩) (fun q h => absurd h List.not_mem_nil) dX7_passes_15
def wp_X7_seed (p0 : Int64) (s0 : CS) (Q : Int64 → CS → Prop) : Prop := ∀ x3_1 : Int64, x3_1 = s0.2.2 → ∀ s0_2 : CS, s0_2 = sL s0 p0 → Q x3_1 s0_2
set_option maxHeartbeats 4000000 in
set_option maxRecDepth 100000 in
theorem c_X7_seed (l : Launch) (D : va_G) (cI cZ cW : ClassId) (q0 : Nat → Nat) (sz : Nat) (p0 : Int64) (s0 : CS) (Q : Int64 → CS → Prop) (hf : wp_X7_seed p0 s0 Q) : Met l yX7_seed (wsA yX7_seed cX7_seed 5 (some .long)) ({ frames := 0, cells := 0, slots := 0, locals := 0 }) (PW D cI cZ cW [.ref (q0 0), .long p0] (wM cI cZ q0 s0) sz) (va_Ql (fun (r : Int64) (u : CS) => Q r u) (fun u t => va_P D classes (wM cI cZ q0 u) t.heap) (va_A (wM cI cZ q0 s0) sz)) 0 0 (va_A (wM cI cZ q0 s0) sz) := by
  refine Met.ofW (cc := cX7_seed) (maxL := 5) (ret := (some .long)) (by decide) rfl ?_
  intro p e s m args below meth c s₁ B hml hv
  obtain ⟨rfl, hsz, hP, hK, hD0⟩ := hv
  have hx := B.exec
  have hb := B.bytes
  have hr := B.returns
  have hts := atoms_spec (ws := (wsA yX7_seed cX7_seed 5 (some .long))) B.pre
  have ht : ∀ w ∈ lw_g, w.before _ s = true := fun w h => hts w (List.mem_cons_of_mem _ h)
  have hown : s.vm.findClass RX7 = some m.cls := findClass_of_methodNamed B.named
  have hlocks := B.notSynchronized
  subst hsz
  have hD := hD0.self (sz := s.heap.size)
  generalize hAe : va_A (wM cI cZ q0 s0) s.heap.size = A at hD ⊢
  have hA : ∀ q : Nat, s.heap.size ≤ q → A q := fun q h => by rw [← hAe]; exact Or.inr h
  have hS : va_S A s.heap s.heap [] := va_S.rf
  have hDk : ∀ w : CS, va_D A (wM cI cZ q0 w) := fun w => D_M hD
  have hl := lv_entry ([.ref (q0 0), .long p0]) (n := 5) (Nat.le_of_ble_eq_true rfl)
  rw [lg_entry_eq]
  generalize (lg_sl ([.ref (q0 0), .long p0]) ++ List.replicate (5 - (lg_sl ([.ref (q0 0), .long p0])).length) Slot.unset).toArray = ls at hl ⊢
  have hl : lv_has ls 5 [(0, .ref (q0 0)), (1, .long p0)] := hl
  unfold wp_X7_seed at hf
  have start : ∀ (H : Heap) (locs : List Loc), va_P D classes (wM cI cZ q0 s0) H → va_D A (wM cI cZ q0 s0) → va_S A s.heap H locs → W p l e (headSpec (wsA yX7_seed cX7_seed 5 (some .long)) ({ frames := 0, cells := 0, slots := 0, locals := 0 })).room s m (#[.ref (q0 0), .long p0] : Array Value) below meth c H locs 0 0 (MQ below (va_Ql (fun (r : Int64) (u : CS) => Q r u) (fun u t => va_P D classes (wM cI cZ q0 u) t.heap) A) (#[.ref (q0 0), .long p0] : Array Value) s 0 0 A) (F0 m 0 ls []) := by
    intro H locs hP hD hS
    refine lv_aload_n hx hb dX7_seed_0 rfl (lv_at hl 0 rfl) ?_
    refine va_get (D := D) (ci := 5) (v := .long s0.2.2) (C := RX7) (T := TX7) (N := 28) hx hb ht inX7 hown hK hP 0 eM_0 rfl 25 (by decide) (ht _ tw_680) (fun _ h9 => h9) rfl dX7_seed_1 ?_
    refine lv_topl (fun x3_1 ex3_1 => ?_)
    have hf := hf x3_1 ex3_1
    refine lv_lstore_n (lv' := [(3, .long x3_1), (0, .ref (q0 0)), (1, .long p0)]) hx hb dX7_seed_4 rfl hl (by decide) rfl (fun ls hl => ?_)
    refine lv_aload_n hx hb dX7_seed_5 rfl (lv_at hl 1 rfl) ?_
    refine lv_lload_n hx hb dX7_seed_6 rfl (lv_at hl 2 rfl) ?_
    refine va_put (D := D) (ci := 5) (v := .long p0) (ty := .long) (C := RX7) (T := TX7) (N := 28) hx hb ht inX7 tyX7 tyX7_ok nmX7 hown hK hP hD hS 0 eM_0 rfl 25 (by decide) (ht _ tw_680) (fun _ h9 => h9) rfl pf_J rfl rfl (Nat.le_of_ble_eq_true rfl) dX7_seed_7 (fun H locs hP hD hS => ?_)
    obtain ⟨s0_2, es0_2⟩ : ∃ y : CS, y = sL s0 p0 := ⟨_, rfl⟩
    have hf := hf s0_2 es0_2
    have hD := hDk s0_2
    have hP : va_P D classes (wM cI cZ q0 s0_2) H := by rw [es0_2]; exact PM_L25 hP
    refine lv_lload_n hx hb dX7_seed_10 rfl (lv_at hl 0 rfl) ?_
    exact W.lret (v := x3_1) hx hb hr (fun t ht hW => ⟨⟨x3_1, s0_2, rfl, hf, P_heap ht hP⟩, hS.F ht⟩) hS.2.2 dX7_seed_11
  exact start s.heap [] hP hD hS
def B_X7_years_88 (G21 : (Int32 × Int32 × CS) → Prop)  (x1 : Int32) (x2 : Int32) (s0 : CS) (Q : Int32 → CS → Prop) : Prop := ∀ x2_1 : Int32, x2_1 = x2 + (1 : Int32) → G21 (x1, x2_1, s0)
def LB_X7_years_21 (G21 : (Int32 × Int32 × CS) → Prop)  (x1 : Int32) (x2 : Int32) (s0 : CS) (Q : Int32 → CS → Prop) : Prop := ((x1 ≤ x2 → wp_X7_of (1 : Int32) (7 : Int32) s0 (fun r_3 => wp_X7_of (1 : Int32) (8 : Int32) s0 (fun r_4 => wp_X7_ones (r_3 ||| r_4) (fun r_5 => Q ((20 : Int32) - r_5) s0)))) ∧ (¬ x1 ≤ x2 → ∀ s0_6 : CS, s0_6 = sL s0 ((s0.2.2 * (6364136223846793005 : Int64)) + (1442695040888963407 : Int64)) → ∀ x3_7 : Int32, x3_7 = (((s0_6.2.2).toUInt64 >>> ((33 : Int32).toInt64.toUInt64 &&& Int64.toUInt64 63)).toInt64 - ((s0_6.2.2).toUInt64 >>> ((33 : Int32).toInt64.toUInt64 &&& Int64.toUInt64 63)).toInt64 / (28 : Int64) * (28 : Int64)).toInt32 → ((x3_7 ≤ (19 : Int32) → wp_X7_canEat (1 : Int32) (0 : Int32) x3_7 s0_6 (fun r_9 => ((r_9 = 0 → B_X7_years_88 G21  x1 x2 s0_6 Q) ∧ (¬ r_9 = 0 → wp_X7_eatOn (1 : Int32) (0 : Int32) x3_7 s0_6 (fun r_12 s0_11 => B_X7_years_88 G21  x1 x2 s0_11 Q))))) ∧ (¬ x3_7 ≤ (19 : Int32) → wp_X7_passOn (1 : Int32) s0_6 (fun r_14 s0_13 => B_X7_years_88 G21  x1 x2 s0_13 Q)))))
def B_X7_years_21  (x1 : Int32) (x2 : Int32) (s0 : CS) (Q : Int32 → CS → Prop) : Prop := LOOP (fun (G21 : (Int32 × Int32 × CS) → Prop) z => LB_X7_years_21 G21  z.1 z.2.1 z.2.2 Q) (x1, x2, s0)
def wp_X7_years (p0 : Int32) (s0 : CS) (Q : Int32 → CS → Prop) : Prop := wp_X7_in (p0.toInt64) (1 : Int64) (30 : Int64) (fun r_15 => ((¬ r_15 = 0 → wp_X7_layTrial s0 (fun s0_17 => B_X7_years_21  p0 (0 : Int32) s0_17 Q)) ∧ (r_15 = 0 → Q (-2 : Int32) s0)))
set_option maxHeartbeats 4000000 in
set_option maxRecDepth 100000 in
theorem c_X7_years (l : Launch) (D : va_G) (cI cZ cW : ClassId) (q0 : Nat → Nat) (sz : Nat) (p0 : Int32) (s0 : CS) (Q : Int32 → CS → Prop) (hf : wp_X7_years p0 s0 Q) : Met l yX7_years (wsA yX7_years cX7_years 4 (some .int)) ({ frames := 5, cells := 0, slots := 0, locals := 117 }) (PW D cI cZ cW [.ref (q0 0), .int p0] (wM cI cZ q0 s0) sz) (va_Qi (fun (r : Int32) (u : CS) => Q r u) (fun u t => va_P D classes (wM cI cZ q0 u) t.heap) (va_A (wM cI cZ q0 s0) sz)) 0 0 (va_A (wM cI cZ q0 s0) sz) := by
  refine Met.ofW (cc := cX7_years) (maxL := 4) (ret := (some .int)) (by decide) rfl ?_
  intro p e s m args below meth c s₁ B hml hv
  obtain ⟨rfl, hsz, hP, hK, hD0⟩ := hv
  have hx := B.exec
  have hb := B.bytes
  have hr := B.returns
  have hts := atoms_spec (ws := (wsA yX7_years cX7_years 4 (some .int))) B.pre
  have ht : ∀ w ∈ lw_g, w.before _ s = true := fun w h => hts w (List.mem_cons_of_mem _ h)
  have hown : s.vm.findClass RX7 = some m.cls := findClass_of_methodNamed B.named
  have hlocks := B.notSynchronized
  subst hsz
  have hD := hD0.self (sz := s.heap.size)
  generalize hAe : va_A (wM cI cZ q0 s0) s.heap.size = A at hD ⊢
  have hA : ∀ q : Nat, s.heap.size ≤ q → A q := fun q h => by rw [← hAe]; exact Or.inr h
  have hS : va_S A s.heap s.heap [] := va_S.rf
  have hDk : ∀ w : CS, va_D A (wM cI cZ q0 w) := fun w => D_M hD
  have hl := lv_entry ([.ref (q0 0), .int p0]) (n := 4) (Nat.le_of_ble_eq_true rfl)
  rw [lg_entry_eq]
  generalize (lg_sl ([.ref (q0 0), .int p0]) ++ List.replicate (4 - (lg_sl ([.ref (q0 0), .int p0])).length) Slot.unset).toArray = ls at hl ⊢
  have hl : lv_has ls 4 [(0, .ref (q0 0)), (1, .int p0)] := hl
  unfold wp_X7_years at hf
  have k_21 : ∀ (x1 : Int32) (x2 : Int32) (s0 : CS) (H : Heap) (locs : List Loc) (ls : Array Slot), B_X7_years_21  x1 x2 s0 Q → va_P D classes (wM cI cZ q0 s0) H → va_D A (wM cI cZ q0 s0) → va_S A s.heap H locs → lv_has ls 4 [(0, .ref (q0 0)), (1, .int x1), (2, .int x2)] → W p l e (headSpec (wsA yX7_years cX7_years 4 (some .int)) ({ frames := 5, cells := 0, slots := 0, locals := 117 })).room s m (#[.ref (q0 0), .int p0] : Array Value) below meth c H locs 0 0 (MQ below (va_Qi (fun (r : Int32) (u : CS) => Q r u) (fun u t => va_P D classes (wM cI cZ q0 u) t.heap) A) (#[.ref (q0 0), .int p0] : Array Value) s 0 0 A) (F0 m 21 ls []) := by
    intro x1 x2 s0 H locs ls hf hP hD hS hl
    unfold B_X7_years_21 at hf
    obtain ⟨I_21, ⟨n0_21, hI0_21⟩, hst_21⟩ := hf
    have main_21 : ∀ (n : Nat) (x1 : Int32) (x2 : Int32) (s0 : CS) (H : Heap) (locs : List Loc) (ls : Array Slot), I_21 n (x1, x2, s0) → va_P D classes (wM cI cZ q0 s0) H → va_D A (wM cI cZ q0 s0) → va_S A s.heap H locs → lv_has ls 4 [(0, .ref (q0 0)), (1, .int x1), (2, .int x2)] → W p l e (headSpec (wsA yX7_years cX7_years 4 (some .int)) ({ frames := 5, cells := 0, slots := 0, locals := 117 })).room s m (#[.ref (q0 0), .int p0] : Array Value) below meth c H locs 0 0 (MQ below (va_Qi (fun (r : Int32) (u : CS) => Q r u) (fun u t => va_P D classes (wM cI cZ q0 u) t.heap) A) (#[.ref (q0 0), .int p0] : Array Value) s 0 0 A) (F0 m 21 ls []) := by
      intro n
      induction n using Nat.strongRecOn with
      | _ n_21 ih_21 =>
      intro x1 x2 s0 H locs ls hI hP hD hS hl
      have hf : LB_X7_years_21 (fun z => ∃ k, k < n_21 ∧ I_21 k z)  x1 x2 s0 Q := hst_21 n_21 (x1, x2, s0) hI
      have hG_21 : ∀ (x1 : Int32) (x2 : Int32) (s0 : CS) (H : Heap) (locs : List Loc) (ls : Array Slot), (∃ k, k < n_21 ∧ I_21 k (x1, x2, s0)) → va_P D classes (wM cI cZ q0 s0) H → va_D A (wM cI cZ q0 s0) → va_S A s.heap H locs → lv_has ls 4 [(0, .ref (q0 0)), (1, .int x1), (2, .int x2)] → W p l e (headSpec (wsA yX7_years cX7_years 4 (some .int)) ({ frames := 5, cells := 0, slots := 0, locals := 117 })).room s m (#[.ref (q0 0), .int p0] : Array Value) below meth c H locs 0 0 (MQ below (va_Qi (fun (r : Int32) (u : CS) => Q r u) (fun u t => va_P D classes (wM cI cZ q0 u) t.heap) A) (#[.ref (q0 0), .int p0] : Array Value) s 0 0 A) (F0 m 21 ls []) := by
        rintro x1 x2 s0 H locs ls ⟨k, hk, hI⟩ hP hD hS hl
        exact ih_21 k hk x1 x2 s0 H locs ls hI hP hD hS hl
      unfold LB_X7_years_21 at hf
      have k_88 : ∀ (x1 : Int32) (x2 : Int32) (s0 : CS) (H : Heap) (locs : List Loc) (ls : Array Slot), B_X7_years_88 (fun z => ∃ k, k < n_21 ∧ I_21 k z)  x1 x2 s0 Q → va_P D classes (wM cI cZ q0 s0) H → va_D A (wM cI cZ q0 s0) → va_S A s.heap H locs → lv_has ls 4 [(0, .ref (q0 0)), (1, .int x1), (2, .int x2)] → W p l e (headSpec (wsA yX7_years cX7_years 4 (some .int)) ({ frames := 5, cells := 0, slots := 0, locals := 117 })).room s m (#[.ref (q0 0), .int p0] : Array Value) below meth c H locs 0 0 (MQ below (va_Qi (fun (r : Int32) (u : CS) => Q r u) (fun u t => va_P D classes (wM cI cZ q0 u) t.heap) A) (#[.ref (q0 0), .int p0] : Array Value) s 0 0 A) (F0 m 88 ls []) := by
        intro x1 x2 s0 H locs ls hf hP hD hS hl
        unfold B_X7_years_88 at hf
        obtain ⟨x2_1, ex2_1⟩ : ∃ y : Int32, y = x2 + (1 : Int32) := ⟨_, rfl⟩
        have hf := hf x2_1 ex2_1
        refine lv_iinc (v := x2_1) (lv' := [(2, .int x2_1), (0, .ref (q0 0)), (1, .int x1)]) hx hb dX7_years_88 hl (k := 2) rfl (by rw [ex2_1]; rfl) (by decide) rfl (fun ls hl => ?_)
        refine lv_goto (tgt := 21) hx hb dX7_years_91 (by decide) ?_
        exact hG_21 x1 x2_1 s0 H locs ls hf hP hD hS (lv_sub hl [1, 2, 0] rfl)
      refine lv_iload_n hx hb dX7_years_21 rfl (lv_at hl 2 rfl) ?_
      refine lv_iload_n hx hb dX7_years_22 rfl (lv_at hl 1 rfl) ?_
      refine lv_icmp_ge (tgt := 94) hx hb dX7_years_23 (by decide) (fun c_2 => ?_) (fun c_2 => ?_)
      · have hf := hf.1 c_2
        refine lv_bipush (v := (20 : Int32)) hx hb dX7_years_94 (by decide) ?_
        refine lv_aload_n hx hb dX7_years_96 rfl (lv_at hl 0 rfl) ?_
        refine lv_iconst (v := (1 : Int32)) hx hb dX7_years_97 (by decide) ?_
        refine lv_bipush (v := (7 : Int32)) hx hb dX7_years_98 (by decide) ?_
        have hPc : va_P D classes (wM cI cZ q0 s0) H := hP
        refine vp_callSi (W.runV (As := [.int (1 : Int32), .int (7 : Int32)]) (rest := [.int (20 : Int32)]) ⟨hx, hb, hml, hown, hts⟩ (c_X7_of l D cI cZ cW q0 (1 : Int32) (7 : Int32) s0 _ hf) ⟨callB_of 2 hts (gA tw_807) rfl rfl rfl (ht _ tw_7) (ht _ tw_804) hd_X7_of ⟨Nat.le_of_ble_eq_true rfl, Nat.le_of_ble_eq_true rfl⟩, ht _ tw_806, ht _ twp_25⟩ ⟨PR_blind, va_recv hK hP (ci := 5) (q0 := 0) rfl eM_0, fun U hU hW => PR_mk hPc hK hU hW⟩ rfl rfl hl.1 rfl (lv_room (Nat.le_of_ble_eq_true rfl)) dX7_years_100 ⟨Nat.zero_le _, Nat.zero_le _⟩) (fun r_3 hf => ?_)
        refine lv_aload_n hx hb dX7_years_103 rfl (lv_at hl 0 rfl) ?_
        refine lv_iconst (v := (1 : Int32)) hx hb dX7_years_104 (by decide) ?_
        refine lv_bipush (v := (8 : Int32)) hx hb dX7_years_105 (by decide) ?_
        have hPc : va_P D classes (wM cI cZ q0 s0) H := hP
        refine vp_callSi (W.runV (As := [.int (1 : Int32), .int (8 : Int32)]) (rest := [.int r_3, .int (20 : Int32)]) ⟨hx, hb, hml, hown, hts⟩ (c_X7_of l D cI cZ cW q0 (1 : Int32) (8 : Int32) s0 _ hf) ⟨callB_of 2 hts (gA tw_807) rfl rfl rfl (ht _ tw_7) (ht _ tw_804) hd_X7_of ⟨Nat.le_of_ble_eq_true rfl, Nat.le_of_ble_eq_true rfl⟩, ht _ tw_806, ht _ twp_25⟩ ⟨PR_blind, va_recv hK hP (ci := 5) (q0 := 0) rfl eM_0, fun U hU hW => PR_mk hPc hK hU hW⟩ rfl rfl hl.1 rfl (lv_room (Nat.le_of_ble_eq_true rfl)) dX7_years_107 ⟨Nat.zero_le _, Nat.zero_le _⟩) (fun r_4 hf => ?_)
        refine lv_ior hx hb dX7_years_110 ?_
        have hPc : va_P D classes ([] : va_W) H := hP.sub [] rfl
        refine vp_callSi (W.runS (As := [.int (r_3 ||| r_4)]) (rest := [.int (20 : Int32)]) ⟨hx, hb, hml, hown, hts⟩ (c_X7_ones l D cI cZ cW  (r_3 ||| r_4) _ hf) ⟨callB_of 1 hts (gA tw_795) rfl rfl rfl (ht _ tw_7) (ht _ tw_793) hd_X7_ones ⟨Nat.le_of_ble_eq_true rfl, Nat.le_of_ble_eq_true rfl⟩, ht _ tw_794⟩ ⟨PR_blind, fun U hU hW => PR_mk hPc hK hU hW⟩ rfl rfl hl.1 rfl (lv_room (Nat.le_of_ble_eq_true rfl)) dX7_years_111 ⟨Nat.zero_le _, Nat.zero_le _⟩) (fun r_5 hf => ?_)
        refine lv_isub hx hb dX7_years_114 ?_
        exact W.iret (v := ((20 : Int32) - r_5)) hx hb hr (fun t ht hW => ⟨⟨((20 : Int32) - r_5), s0, rfl, hf, P_heap ht hP⟩, hS.F ht⟩) hS.2.2 dX7_years_115
      · have hf := hf.2 c_2
        refine lv_aload_n hx hb dX7_years_26 rfl (lv_at hl 0 rfl) ?_
        refine lv_aload_n hx hb dX7_years_27 rfl (lv_at hl 0 rfl) ?_
        refine va_get (D := D) (ci := 5) (v := .long s0.2.2) (C := RX7) (T := TX7) (N := 28) hx hb ht inX7 hown hK hP 0 eM_0 rfl 25 (by decide) (ht _ tw_680) (fun _ h9 => h9) rfl dX7_years_28 ?_
        refine lv_ldc2 (v := (6364136223846793005 : Int64)) hx hb hown (ht _ tw_1011) dX7_years_31 ?_
        refine lv_lmul hx hb dX7_years_34 ?_
        refine lv_ldc2 (v := (1442695040888963407 : Int64)) hx hb hown (ht _ tw_1012) dX7_years_35 ?_
        refine lv_ladd hx hb dX7_years_38 ?_
        refine va_put (D := D) (ci := 5) (v := .long ((s0.2.2 * (6364136223846793005 : Int64)) + (1442695040888963407 : Int64))) (ty := .long) (C := RX7) (T := TX7) (N := 28) hx hb ht inX7 tyX7 tyX7_ok nmX7 hown hK hP hD hS 0 eM_0 rfl 25 (by decide) (ht _ tw_680) (fun _ h9 => h9) rfl pf_J rfl rfl (Nat.le_of_ble_eq_true rfl) dX7_years_39 (fun H locs hP hD hS => ?_)
        obtain ⟨s0_6, es0_6⟩ : ∃ y : CS, y = sL s0 ((s0.2.2 * (6364136223846793005 : Int64)) + (1442695040888963407 : Int64)) := ⟨_, rfl⟩
        have hf := hf s0_6 es0_6
        have hD := hDk s0_6
        have hP : va_P D classes (wM cI cZ q0 s0_6) H := by rw [es0_6]; exact PM_L25 hP
        refine lv_aload_n hx hb dX7_years_42 rfl (lv_at hl 0 rfl) ?_
        refine va_get (D := D) (ci := 5) (v := .long s0_6.2.2) (C := RX7) (T := TX7) (N := 28) hx hb ht inX7 hown hK hP 0 eM_0 rfl 25 (by decide) (ht _ tw_680) (fun _ h9 => h9) rfl dX7_years_43 ?_
        refine lv_bipush (v := (33 : Int32)) hx hb dX7_years_46 (by decide) ?_
        refine lv_lushr (v := ((s0_6.2.2).toUInt64 >>> ((33 : Int32).toInt64.toUInt64 &&& Int64.toUInt64 63)).toInt64) hx hb dX7_years_48 rfl ?_
        refine lv_ldc2 (v := (28 : Int64)) hx hb hown (ht _ tw_1013) dX7_years_49 ?_
        refine lv_lrem hx hb dX7_years_52 (by decide) ?_
        refine lv_l2i (v := (((s0_6.2.2).toUInt64 >>> ((33 : Int32).toInt64.toUInt64 &&& Int64.toUInt64 63)).toInt64 - ((s0_6.2.2).toUInt64 >>> ((33 : Int32).toInt64.toUInt64 &&& Int64.toUInt64 63)).toInt64 / (28 : Int64) * (28 : Int64)).toInt32) hx hb dX7_years_53 rfl ?_
        refine lv_topi (fun x3_7 ex3_7 => ?_)
        have hf := hf x3_7 ex3_7
        refine lv_istore_n (lv' := [(3, .int x3_7), (0, .ref (q0 0)), (1, .int x1), (2, .int x2)]) hx hb dX7_years_54 rfl hl (by decide) rfl (fun ls hl => ?_)
        refine lv_iload_n hx hb dX7_years_55 rfl (lv_at hl 0 rfl) ?_
        refine lv_bipush (v := (19 : Int32)) hx hb dX7_years_56 (by decide) ?_
        refine lv_icmp_le (tgt := 70) hx hb dX7_years_58 (by decide) (fun c_8 => ?_) (fun c_8 => ?_)
        · have hf := hf.1 c_8
          refine lv_aload_n hx hb dX7_years_70 rfl (lv_at hl 1 rfl) ?_
          refine lv_iconst (v := (1 : Int32)) hx hb dX7_years_71 (by decide) ?_
          refine lv_iconst (v := (0 : Int32)) hx hb dX7_years_72 (by decide) ?_
          refine lv_iload_n hx hb dX7_years_73 rfl (lv_at hl 0 rfl) ?_
          have hPc : va_P D classes (wM cI cZ q0 s0_6) H := hP
          refine vp_callSi (W.runV (As := [.int (1 : Int32), .int (0 : Int32), .int x3_7]) (rest := []) ⟨hx, hb, hml, hown, hts⟩ (c_X7_canEat l D cI cZ cW q0 (1 : Int32) (0 : Int32) x3_7 s0_6 _ hf) ⟨callB_of 3 hts (gA tw_872) rfl rfl rfl (ht _ tw_7) (ht _ tw_869) hd_X7_canEat ⟨Nat.le_of_ble_eq_true rfl, Nat.le_of_ble_eq_true rfl⟩, ht _ tw_871, ht _ twp_36⟩ ⟨PR_blind, va_recv hK hP (ci := 5) (q0 := 0) rfl eM_0, fun U hU hW => PR_mk hPc hK hU hW⟩ rfl rfl hl.1 rfl (lv_room (Nat.le_of_ble_eq_true rfl)) dX7_years_74 ⟨Nat.zero_le _, Nat.zero_le _⟩) (fun r_9 hf => ?_)
          refine lv_if_eq (tgt := 88) hx hb dX7_years_77 (by decide) (fun c_10 => ?_) (fun c_10 => ?_)
          · have hf := hf.1 c_10
            exact k_88 x1 x2 s0_6 H locs ls hf hP hD hS (lv_sub hl [1, 2, 3] rfl)
          · have hf := hf.2 c_10
            refine lv_aload_n hx hb dX7_years_80 rfl (lv_at hl 1 rfl) ?_
            refine lv_iconst (v := (1 : Int32)) hx hb dX7_years_81 (by decide) ?_
            refine lv_iconst (v := (0 : Int32)) hx hb dX7_years_82 (by decide) ?_
            refine lv_iload_n hx hb dX7_years_83 rfl (lv_at hl 0 rfl) ?_
            have hPc : va_P D classes (wM cI cZ q0 s0_6) H := hP
            have hDc : va_D A (wM cI cZ q0 s0_6) := hD
            have hFc := va_free (wc := (wM cI cZ q0 s0_6)) hD hS hA [0, 1, 2, 3, 4, 5, 6, 7, 8, 9, 10, 11, 12, 13, 14, 15] rfl
            refine va_calli (va_runV (As := [.int (1 : Int32), .int (0 : Int32), .int x3_7]) (rest := []) ⟨hx, hb, hml, hown, hts⟩ (c_X7_eatOn l D cI cZ cW q0 H.size (1 : Int32) (0 : Int32) x3_7 s0_6 _ hf) ⟨callB_of 3 hts (gA tw_876) rfl rfl rfl (ht _ tw_7) (ht _ tw_873) hd_X7_eatOn ⟨Nat.le_of_ble_eq_true rfl, Nat.le_of_ble_eq_true rfl⟩, ht _ tw_875, ht _ twp_37⟩ ⟨PW_blind, va_recv hK hP (ci := 5) (q0 := 0) rfl eM_0, fun U hU hW => PW_mk hPc hDc hK hU hW⟩ rfl rfl hl.1 rfl (lv_room (Nat.le_of_ble_eq_true rfl)) dX7_years_84 ⟨Nat.zero_le _, Nat.zero_le _⟩) hS (fun q _ h => hFc q h) hFc (fun r_12 u t H1 locs ht1 hvm hf hB hz1 hk1 hS => ?_)
            obtain ⟨s0_11, rfl⟩ : ∃ z, z = u := ⟨_, rfl⟩
            rw [ht1] at hB
            have hP := hB
            have hD := hDk s0_11
            generalize H1 = H at hP hS ⊢
            have hP : va_P D classes (wM cI cZ q0 s0_11) H := hP
            have hD : va_D A (wM cI cZ q0 s0_11) := hD
            refine lv_pop hx hb dX7_years_87 rfl ?_
            exact k_88 x1 x2 s0_11 H locs ls hf hP hD hS (lv_sub hl [1, 2, 3] rfl)
        · have hf := hf.2 c_8
          refine lv_aload_n hx hb dX7_years_61 rfl (lv_at hl 1 rfl) ?_
          refine lv_iconst (v := (1 : Int32)) hx hb dX7_years_62 (by decide) ?_
          have hPc : va_P D classes (wM cI cZ q0 s0_6) H := hP
          have hDc : va_D A (wM cI cZ q0 s0_6) := hD
          have hFc := va_free (wc := (wM cI cZ q0 s0_6)) hD hS hA [0, 1, 2, 3, 4, 5, 6, 7, 8, 9, 10, 11, 12, 13, 14, 15] rfl
          refine va_calli (va_runV (As := [.int (1 : Int32)]) (rest := []) ⟨hx, hb, hml, hown, hts⟩ (c_X7_passOn l D cI cZ cW q0 H.size (1 : Int32) s0_6 _ hf) ⟨callB_of 1 hts (gA tw_826) rfl rfl rfl (ht _ tw_7) (ht _ tw_823) hd_X7_passOn ⟨Nat.le_of_ble_eq_true rfl, Nat.le_of_ble_eq_true rfl⟩, ht _ tw_825, ht _ twp_27⟩ ⟨PW_blind, va_recv hK hP (ci := 5) (q0 := 0) rfl eM_0, fun U hU hW => PW_mk hPc hDc hK hU hW⟩ rfl rfl hl.1 rfl (lv_room (Nat.le_of_ble_eq_true rfl)) dX7_years_63 ⟨Nat.zero_le _, Nat.zero_le _⟩) hS (fun q _ h => hFc q h) hFc (fun r_14 u t H1 locs ht1 hvm hf hB hz1 hk1 hS => ?_)
          obtain ⟨s0_13, rfl⟩ : ∃ z, z = u := ⟨_, rfl⟩
          rw [ht1] at hB
          have hP := hB
          have hD := hDk s0_13
          generalize H1 = H at hP hS ⊢
          have hP : va_P D classes (wM cI cZ q0 s0_13) H := hP
          have hD : va_D A (wM cI cZ q0 s0_13) := hD
          refine lv_pop hx hb dX7_years_66 rfl ?_
          refine lv_goto (tgt := 88) hx hb dX7_years_67 (by decide) ?_
          exact k_88 x1 x2 s0_13 H locs ls hf hP hD hS (lv_sub hl [1, 2, 3] rfl)
    exact main_21 n0_21 x1 x2 s0 H locs ls hI0_21 hP hD hS hl
  have start : ∀ (H : Heap) (locs : List Loc), va_P D classes (wM cI cZ q0 s0) H → va_D A (wM cI cZ q0 s0) → va_S A s.heap H locs → W p l e (headSpec (wsA yX7_years cX7_years 4 (some .int)) ({ frames := 5, cells := 0, slots := 0, locals := 117 })).room s m (#[.ref (q0 0), .int p0] : Array Value) below meth c H locs 0 0 (MQ below (va_Qi (fun (r : Int32) (u : CS) => Q r u) (fun u t => va_P D classes (wM cI cZ q0 u) t.heap) A) (#[.ref (q0 0), .int p0] : Array Value) s 0 0 A) (F0 m 0 ls []) := by
    intro H locs hP hD hS
    refine lv_iload_n hx hb dX7_years_0 rfl (lv_at hl 1 rfl) ?_
    refine lv_i2l (v := p0.toInt64) hx hb dX7_years_1 rfl ?_
    refine lv_lconst (v := (1 : Int64)) hx hb dX7_years_2 (by decide) ?_
    refine lv_ldc2 (v := (30 : Int64)) hx hb hown (ht _ tw_1010) dX7_years_3 ?_
    have hPc : va_P D classes ([] : va_W) H := hP.sub [] rfl
    refine vp_callSi (W.runS (As := [.long p0.toInt64, .long (1 : Int64), .long (30 : Int64)]) (rest := []) ⟨hx, hb, hml, hown, hts⟩ (c_X7_in l D cI cZ cW  (p0.toInt64) (1 : Int64) (30 : Int64) _ hf) ⟨callB_of 3 hts (gA tw_747) rfl rfl rfl (ht _ tw_7) (ht _ tw_745) hd_X7_in ⟨Nat.le_of_ble_eq_true rfl, Nat.le_of_ble_eq_true rfl⟩, ht _ tw_746⟩ ⟨PR_blind, fun U hU hW => PR_mk hPc hK hU hW⟩ rfl rfl hl.1 rfl (lv_room (Nat.le_of_ble_eq_true rfl)) dX7_years_6 ⟨Nat.zero_le _, Nat.zero_le _⟩) (fun r_15 hf => ?_)
    refine lv_if_ne (tgt := 15) hx hb dX7_years_9 (by decide) (fun c_16 => ?_) (fun c_16 => ?_)
    · have hf := hf.1 c_16
      refine lv_aload_n hx hb dX7_years_15 rfl (lv_at hl 0 rfl) ?_
      have hPc : va_P D classes (wM cI cZ q0 s0) H := hP
      have hDc : va_D A (wM cI cZ q0 s0) := hD
      have hFc := va_free (wc := (wM cI cZ q0 s0)) hD hS hA [0, 1, 2, 3, 4, 5, 6, 7, 8, 9, 10, 11, 12, 13, 14, 15] rfl
      refine va_callv (va_runV (As := []) (rest := []) ⟨hx, hb, hml, hown, hts⟩ (c_X7_layTrial l D cI cZ cW q0 H.size s0 _ hf) ⟨callB_of 0 hts (gA tw_927) rfl rfl rfl (ht _ tw_7) (ht _ tw_924) hd_X7_layTrial ⟨Nat.le_of_ble_eq_true rfl, Nat.le_of_ble_eq_true rfl⟩, ht _ tw_926, ht _ twp_43⟩ ⟨PW_blind, va_recv hK hP (ci := 5) (q0 := 0) rfl eM_0, fun U hU hW => PW_mk hPc hDc hK hU hW⟩ rfl rfl hl.1 rfl (lv_room (Nat.le_of_ble_eq_true rfl)) dX7_years_16 ⟨Nat.zero_le _, Nat.zero_le _⟩) hS (fun q _ h => hFc q h) hFc (fun u t H1 locs ht1 hvm hf hB hz1 hk1 hS => ?_)
      obtain ⟨s0_17, rfl⟩ : ∃ z, z = u := ⟨_, rfl⟩
      rw [ht1] at hB
      have hP := hB
      have hD := hDk s0_17
      generalize H1 = H at hP hS ⊢
      have hP : va_P D classes (wM cI cZ q0 s0_17) H := hP
      have hD : va_D A (wM cI cZ q0 s0_17) := hD
      refine lv_iconst (v := (0 : Int32)) hx hb dX7_years_19 (by decide) ?_
      refine lv_istore_n (lv' := [(2, .int (0 : Int32)), (0, .ref (q0 0)), (1, .int p0)]) hx hb dX7_years_20 rfl hl (by decide) rfl (fun ls hl => ?_)
      exact k_21 p0 (0 : Int32) s0_17 H locs ls hf hP hD hS (lv_sub hl [1, 2, 0] rfl)
    · have hf := hf.2 c_16
      refine lv_bipush (v := (-2 : Int32)) hx hb dX7_years_12 (by decide) ?_
      exact W.iret (v := (-2 : Int32)) hx hb hr (fun t ht hW => ⟨⟨(-2 : Int32), s0, rfl, hf, P_heap ht hP⟩, hS.F ht⟩) hS.2.2 dX7_years_14
  exact start s.heap [] hP hD hS
def LB_X7_keep_21 (G21 : (Int32 × Int32 × CS) → Prop)  (x1 : Int32) (x2 : Int32) (s0 : CS) (Q : Int32 → CS → Prop) : Prop := (((35 : Int32) ≤ x2 → vp_in (34 : Int32) 70 ∧ Q ((s0.2.1 5) (34 : Int32).toNatClampNeg) s0) ∧ (¬ (35 : Int32) ≤ x2 → vp_in x2 70 ∧ vp_in (((35 : Int32) * x1) + x2) 70 ∧ ∀ s0_5 : CS, s0_5 = sA s0 27 (((35 : Int32) * x1) + x2).toNatClampNeg ((s0.2.1 5) x2.toNatClampNeg) → ∀ x2_6 : Int32, x2_6 = x2 + (1 : Int32) → G21 (x1, x2_6, s0_5)))
def B_X7_keep_21  (x1 : Int32) (x2 : Int32) (s0 : CS) (Q : Int32 → CS → Prop) : Prop := LOOP (fun (G21 : (Int32 × Int32 × CS) → Prop) z => LB_X7_keep_21 G21  z.1 z.2.1 z.2.2 Q) (x1, x2, s0)
def wp_X7_keep (p0 : Int32) (s0 : CS) (Q : Int32 → CS → Prop) : Prop := wp_X7_in (p0.toInt64) (0 : Int64) (1 : Int64) (fun r_7 => ((¬ r_7 = 0 → vp_in p0 2 ∧ ∀ s0_10 : CS, s0_10 = sA s0 26 p0.toNatClampNeg (vp_nar .boolean (1 : Int32)) → B_X7_keep_21  p0 (0 : Int32) s0_10 Q) ∧ (r_7 = 0 → Q (-1 : Int32) s0)))
set_option maxHeartbeats 4000000 in
set_option maxRecDepth 100000 in
theorem c_X7_keep (l : Launch) (D : va_G) (cI cZ cW : ClassId) (q0 : Nat → Nat) (sz : Nat) (p0 : Int32) (s0 : CS) (Q : Int32 → CS → Prop) (hf : wp_X7_keep p0 s0 Q) : Met l yX7_keep (wsA yX7_keep cX7_keep 3 (some .int)) ({ frames := 1, cells := 0, slots := 0, locals := 25 }) (PW D cI cZ cW [.ref (q0 0), .int p0] (wM cI cZ q0 s0) sz) (va_Qi (fun (r : Int32) (u : CS) => Q r u) (fun u t => va_P D classes (wM cI cZ q0 u) t.heap) (va_A (wM cI cZ q0 s0) sz)) 0 0 (va_A (wM cI cZ q0 s0) sz) := by
  refine Met.ofW (cc := cX7_keep) (maxL := 3) (ret := (some .int)) (by decide) rfl ?_
  intro p e s m args below meth c s₁ B hml hv
  obtain ⟨rfl, hsz, hP, hK, hD0⟩ := hv
  have hx := B.exec
  have hb := B.bytes
  have hr := B.returns
  have hts := atoms_spec (ws := (wsA yX7_keep cX7_keep 3 (some .int))) B.pre
  have ht : ∀ w ∈ lw_g, w.before _ s = true := fun w h => hts w (List.mem_cons_of_mem _ h)
  have hown : s.vm.findClass RX7 = some m.cls := findClass_of_methodNamed B.named
  have hlocks := B.notSynchronized
  subst hsz
  have hD := hD0.self (sz := s.heap.size)
  generalize hAe : va_A (wM cI cZ q0 s0) s.heap.size = A at hD ⊢
  have hA : ∀ q : Nat, s.heap.size ≤ q → A q := fun q h => by rw [← hAe]; exact Or.inr h
  have hS : va_S A s.heap s.heap [] := va_S.rf
  have hDk : ∀ w : CS, va_D A (wM cI cZ q0 w) := fun w => D_M hD
  have hl := lv_entry ([.ref (q0 0), .int p0]) (n := 3) (Nat.le_of_ble_eq_true rfl)
  rw [lg_entry_eq]
  generalize (lg_sl ([.ref (q0 0), .int p0]) ++ List.replicate (3 - (lg_sl ([.ref (q0 0), .int p0])).length) Slot.unset).toArray = ls at hl ⊢
  have hl : lv_has ls 3 [(0, .ref (q0 0)), (1, .int p0)] := hl
  unfold wp_X7_keep at hf
  have k_21 : ∀ (x1 : Int32) (x2 : Int32) (s0 : CS) (H : Heap) (locs : List Loc) (ls : Array Slot), B_X7_keep_21  x1 x2 s0 Q → va_P D classes (wM cI cZ q0 s0) H → va_D A (wM cI cZ q0 s0) → va_S A s.heap H locs → lv_has ls 3 [(0, .ref (q0 0)), (1, .int x1), (2, .int x2)] → W p l e (headSpec (wsA yX7_keep cX7_keep 3 (some .int)) ({ frames := 1, cells := 0, slots := 0, locals := 25 })).room s m (#[.ref (q0 0), .int p0] : Array Value) below meth c H locs 0 0 (MQ below (va_Qi (fun (r : Int32) (u : CS) => Q r u) (fun u t => va_P D classes (wM cI cZ q0 u) t.heap) A) (#[.ref (q0 0), .int p0] : Array Value) s 0 0 A) (F0 m 21 ls []) := by
    intro x1 x2 s0 H locs ls hf hP hD hS hl
    unfold B_X7_keep_21 at hf
    obtain ⟨I_21, ⟨n0_21, hI0_21⟩, hst_21⟩ := hf
    have main_21 : ∀ (n : Nat) (x1 : Int32) (x2 : Int32) (s0 : CS) (H : Heap) (locs : List Loc) (ls : Array Slot), I_21 n (x1, x2, s0) → va_P D classes (wM cI cZ q0 s0) H → va_D A (wM cI cZ q0 s0) → va_S A s.heap H locs → lv_has ls 3 [(0, .ref (q0 0)), (1, .int x1), (2, .int x2)] → W p l e (headSpec (wsA yX7_keep cX7_keep 3 (some .int)) ({ frames := 1, cells := 0, slots := 0, locals := 25 })).room s m (#[.ref (q0 0), .int p0] : Array Value) below meth c H locs 0 0 (MQ below (va_Qi (fun (r : Int32) (u : CS) => Q r u) (fun u t => va_P D classes (wM cI cZ q0 u) t.heap) A) (#[.ref (q0 0), .int p0] : Array Value) s 0 0 A) (F0 m 21 ls []) := by
      intro n
      induction n using Nat.strongRecOn with
      | _ n_21 ih_21 =>
      intro x1 x2 s0 H locs ls hI hP hD hS hl
      have hf : LB_X7_keep_21 (fun z => ∃ k, k < n_21 ∧ I_21 k z)  x1 x2 s0 Q := hst_21 n_21 (x1, x2, s0) hI
      have hG_21 : ∀ (x1 : Int32) (x2 : Int32) (s0 : CS) (H : Heap) (locs : List Loc) (ls : Array Slot), (∃ k, k < n_21 ∧ I_21 k (x1, x2, s0)) → va_P D classes (wM cI cZ q0 s0) H → va_D A (wM cI cZ q0 s0) → va_S A s.heap H locs → lv_has ls 3 [(0, .ref (q0 0)), (1, .int x1), (2, .int x2)] → W p l e (headSpec (wsA yX7_keep cX7_keep 3 (some .int)) ({ frames := 1, cells := 0, slots := 0, locals := 25 })).room s m (#[.ref (q0 0), .int p0] : Array Value) below meth c H locs 0 0 (MQ below (va_Qi (fun (r : Int32) (u : CS) => Q r u) (fun u t => va_P D classes (wM cI cZ q0 u) t.heap) A) (#[.ref (q0 0), .int p0] : Array Value) s 0 0 A) (F0 m 21 ls []) := by
        rintro x1 x2 s0 H locs ls ⟨k, hk, hI⟩ hP hD hS hl
        exact ih_21 k hk x1 x2 s0 H locs ls hI hP hD hS hl
      unfold LB_X7_keep_21 at hf
      refine lv_iload_n hx hb dX7_keep_21 rfl (lv_at hl 2 rfl) ?_
      refine lv_bipush (v := (35 : Int32)) hx hb dX7_keep_22 (by decide) ?_
      refine lv_icmp_ge (tgt := 50) hx hb dX7_keep_24 (by decide) (fun c_1 => ?_) (fun c_1 => ?_)
      · have hf := hf.1 c_1
        refine lv_aload_n hx hb dX7_keep_50 rfl (lv_at hl 0 rfl) ?_
        refine va_get (D := D) (ci := 5) (v := .ref (q0 4)) (C := RX7) (T := TX7) (N := 28) hx hb ht inX7 hown hK hP 0 eM_0 rfl 5 (by decide) (ht _ tw_660) (fun _ h9 => h9) rfl dX7_keep_51 ?_
        refine lv_bipush (v := (34 : Int32)) hx hb dX7_keep_54 (by decide) ?_
        obtain ⟨hi_2, hf⟩ := hf
        refine va_iald hx hb hK hP 4 0 eM_4 rfl hi_2 dX7_keep_56 ?_
        exact W.iret (v := ((s0.2.1 5) (34 : Int32).toNatClampNeg)) hx hb hr (fun t ht hW => ⟨⟨((s0.2.1 5) (34 : Int32).toNatClampNeg), s0, rfl, hf, P_heap ht hP⟩, hS.F ht⟩) hS.2.2 dX7_keep_57
      · have hf := hf.2 c_1
        refine lv_aload_n hx hb dX7_keep_27 rfl (lv_at hl 0 rfl) ?_
        refine va_get (D := D) (ci := 5) (v := .ref (q0 15)) (C := RX7) (T := TX7) (N := 28) hx hb ht inX7 hown hK hP 0 eM_0 rfl 27 (by decide) (ht _ tw_682) (fun _ h9 => h9) rfl dX7_keep_28 ?_
        refine lv_bipush (v := (35 : Int32)) hx hb dX7_keep_31 (by decide) ?_
        refine lv_iload_n hx hb dX7_keep_33 rfl (lv_at hl 1 rfl) ?_
        refine lv_imul hx hb dX7_keep_34 ?_
        refine lv_iload_n hx hb dX7_keep_35 rfl (lv_at hl 2 rfl) ?_
        refine lv_iadd hx hb dX7_keep_36 ?_
        refine lv_aload_n hx hb dX7_keep_37 rfl (lv_at hl 0 rfl) ?_
        refine va_get (D := D) (ci := 5) (v := .ref (q0 4)) (C := RX7) (T := TX7) (N := 28) hx hb ht inX7 hown hK hP 0 eM_0 rfl 5 (by decide) (ht _ tw_660) (fun _ h9 => h9) rfl dX7_keep_38 ?_
        refine lv_iload_n hx hb dX7_keep_41 rfl (lv_at hl 2 rfl) ?_
        obtain ⟨hi_3, hf⟩ := hf
        refine va_iald hx hb hK hP 4 0 eM_4 rfl hi_3 dX7_keep_42 ?_
        obtain ⟨hi_4, hf⟩ := hf
        refine va_iast hx hb hK hP hD hS 15 0 eM_15 rfl hi_4 dX7_keep_43 (fun H locs hP hD hS => ?_)
        obtain ⟨s0_5, es0_5⟩ : ∃ y : CS, y = sA s0 27 (((35 : Int32) * x1) + x2).toNatClampNeg ((s0.2.1 5) x2.toNatClampNeg) := ⟨_, rfl⟩
        have hf := hf s0_5 es0_5
        have hD := hDk s0_5
        have hP : va_P D classes (wM cI cZ q0 s0_5) H := by rw [es0_5]; exact PM_F27 hP
        obtain ⟨x2_6, ex2_6⟩ : ∃ y : Int32, y = x2 + (1 : Int32) := ⟨_, rfl⟩
        have hf := hf x2_6 ex2_6
        refine lv_iinc (v := x2_6) (lv' := [(2, .int x2_6), (0, .ref (q0 0)), (1, .int x1)]) hx hb dX7_keep_44 hl (k := 2) rfl (by rw [ex2_6]; rfl) (by decide) rfl (fun ls hl => ?_)
        refine lv_goto (tgt := 21) hx hb dX7_keep_47 (by decide) ?_
        exact hG_21 x1 x2_6 s0_5 H locs ls hf hP hD hS (lv_sub hl [1, 2, 0] rfl)
    exact main_21 n0_21 x1 x2 s0 H locs ls hI0_21 hP hD hS hl
  have start : ∀ (H : Heap) (locs : List Loc), va_P D classes (wM cI cZ q0 s0) H → va_D A (wM cI cZ q0 s0) → va_S A s.heap H locs → W p l e (headSpec (wsA yX7_keep cX7_keep 3 (some .int)) ({ frames := 1, cells := 0, slots := 0, locals := 25 })).room s m (#[.ref (q0 0), .int p0] : Array Value) below meth c H locs 0 0 (MQ below (va_Qi (fun (r : Int32) (u : CS) => Q r u) (fun u t => va_P D classes (wM cI cZ q0 u) t.heap) A) (#[.ref (q0 0), .int p0] : Array Value) s 0 0 A) (F0 m 0 ls []) := by
    intro H locs hP hD hS
    refine lv_iload_n hx hb dX7_keep_0 rfl (lv_at hl 1 rfl) ?_
    refine lv_i2l (v := p0.toInt64) hx hb dX7_keep_1 rfl ?_
    refine lv_lconst (v := (0 : Int64)) hx hb dX7_keep_2 (by decide) ?_
    refine lv_lconst (v := (1 : Int64)) hx hb dX7_keep_3 (by decide) ?_
    have hPc : va_P D classes ([] : va_W) H := hP.sub [] rfl
    refine vp_callSi (W.runS (As := [.long p0.toInt64, .long (0 : Int64), .long (1 : Int64)]) (rest := []) ⟨hx, hb, hml, hown, hts⟩ (c_X7_in l D cI cZ cW  (p0.toInt64) (0 : Int64) (1 : Int64) _ hf) ⟨callB_of 3 hts (gA tw_747) rfl rfl rfl (ht _ tw_7) (ht _ tw_745) hd_X7_in ⟨Nat.le_of_ble_eq_true rfl, Nat.le_of_ble_eq_true rfl⟩, ht _ tw_746⟩ ⟨PR_blind, fun U hU hW => PR_mk hPc hK hU hW⟩ rfl rfl hl.1 rfl (lv_room (Nat.le_of_ble_eq_true rfl)) dX7_keep_4 ⟨Nat.zero_le _, Nat.zero_le _⟩) (fun r_7 hf => ?_)
    refine lv_if_ne (tgt := 12) hx hb dX7_keep_7 (by decide) (fun c_8 => ?_) (fun c_8 => ?_)
    · have hf := hf.1 c_8
      refine lv_aload_n hx hb dX7_keep_12 rfl (lv_at hl 0 rfl) ?_
      refine va_get (D := D) (ci := 5) (v := .ref (q0 14)) (C := RX7) (T := TX7) (N := 28) hx hb ht inX7 hown hK hP 0 eM_0 rfl 26 (by decide) (ht _ tw_681) (fun _ h9 => h9) rfl dX7_keep_13 ?_
      refine lv_iload_n hx hb dX7_keep_16 rfl (lv_at hl 1 rfl) ?_
      refine lv_iconst (v := (1 : Int32)) hx hb dX7_keep_17 (by decide) ?_
      obtain ⟨hi_9, hf⟩ := hf
      refine va_zast hx hb hK hP hD hS 14 1 eM_14 rfl hi_9 dX7_keep_18 (fun H locs hP hD hS => ?_)
      obtain ⟨s0_10, es0_10⟩ : ∃ y : CS, y = sA s0 26 p0.toNatClampNeg (vp_nar .boolean (1 : Int32)) := ⟨_, rfl⟩
      have hf := hf s0_10 es0_10
      have hD := hDk s0_10
      have hP : va_P D classes (wM cI cZ q0 s0_10) H := by rw [es0_10]; exact PM_F26 hP
      refine lv_iconst (v := (0 : Int32)) hx hb dX7_keep_19 (by decide) ?_
      refine lv_istore_n (lv' := [(2, .int (0 : Int32)), (0, .ref (q0 0)), (1, .int p0)]) hx hb dX7_keep_20 rfl hl (by decide) rfl (fun ls hl => ?_)
      exact k_21 p0 (0 : Int32) s0_10 H locs ls hf hP hD hS (lv_sub hl [1, 2, 0] rfl)
    · have hf := hf.2 c_8
      refine lv_iconst (v := (-1 : Int32)) hx hb dX7_keep_10 (by decide) ?_
      exact W.iret (v := (-1 : Int32)) hx hb hr (fun t ht hW => ⟨⟨(-1 : Int32), s0, rfl, hf, P_heap ht hP⟩, hS.F ht⟩) hS.2.2 dX7_keep_11
  exact start s.heap [] hP hD hS
def LB_X7_again_26 (G26 : (Int32 × Int32 × CS) → Prop)  (x1 : Int32) (x2 : Int32) (s0 : CS) (Q : Int32 → CS → Prop) : Prop := (((35 : Int32) ≤ x2 → ∀ s0_2 : CS, s0_2 = sI s0 17 (0 : Int32) → vp_in (34 : Int32) 70 ∧ Q ((s0_2.2.1 5) (34 : Int32).toNatClampNeg) s0_2) ∧ (¬ (35 : Int32) ≤ x2 → vp_in (((35 : Int32) * x1) + x2) 70 ∧ vp_in x2 70 ∧ ∀ s0_6 : CS, s0_6 = sA s0 5 x2.toNatClampNeg ((s0.2.1 27) (((35 : Int32) * x1) + x2).toNatClampNeg) → ∀ x2_7 : Int32, x2_7 = x2 + (1 : Int32) → G26 (x1, x2_7, s0_6)))
def B_X7_again_26  (x1 : Int32) (x2 : Int32) (s0 : CS) (Q : Int32 → CS → Prop) : Prop := LOOP (fun (G26 : (Int32 × Int32 × CS) → Prop) z => LB_X7_again_26 G26  z.1 z.2.1 z.2.2 Q) (x1, x2, s0)
def wp_X7_again (p0 : Int32) (s0 : CS) (Q : Int32 → CS → Prop) : Prop := wp_X7_in (p0.toInt64) (0 : Int64) (1 : Int64) (fun r_8 => ((¬ r_8 = 0 → vp_in p0 2 ∧ ((¬ ((s0.2.1 26) p0.toNatClampNeg) = 0 → B_X7_again_26  p0 (0 : Int32) s0 Q) ∧ (((s0.2.1 26) p0.toNatClampNeg) = 0 → Q (-3 : Int32) s0))) ∧ (r_8 = 0 → Q (-1 : Int32) s0)))
set_option maxHeartbeats 4000000 in
set_option maxRecDepth 100000 in
theorem c_X7_again (l : Launch) (D : va_G) (cI cZ cW : ClassId) (q0 : Nat → Nat) (sz : Nat) (p0 : Int32) (s0 : CS) (Q : Int32 → CS → Prop) (hf : wp_X7_again p0 s0 Q) : Met l yX7_again (wsA yX7_again cX7_again 3 (some .int)) ({ frames := 1, cells := 0, slots := 0, locals := 25 }) (PW D cI cZ cW [.ref (q0 0), .int p0] (wM cI cZ q0 s0) sz) (va_Qi (fun (r : Int32) (u : CS) => Q r u) (fun u t => va_P D classes (wM cI cZ q0 u) t.heap) (va_A (wM cI cZ q0 s0) sz)) 0 0 (va_A (wM cI cZ q0 s0) sz) := by
  refine Met.ofW (cc := cX7_again) (maxL := 3) (ret := (some .int)) (by decide) rfl ?_
  intro p e s m args below meth c s₁ B hml hv
  obtain ⟨rfl, hsz, hP, hK, hD0⟩ := hv
  have hx := B.exec
  have hb := B.bytes
  have hr := B.returns
  have hts := atoms_spec (ws := (wsA yX7_again cX7_again 3 (some .int))) B.pre
  have ht : ∀ w ∈ lw_g, w.before _ s = true := fun w h => hts w (List.mem_cons_of_mem _ h)
  have hown : s.vm.findClass RX7 = some m.cls := findClass_of_methodNamed B.named
  have hlocks := B.notSynchronized
  subst hsz
  have hD := hD0.self (sz := s.heap.size)
  generalize hAe : va_A (wM cI cZ q0 s0) s.heap.size = A at hD ⊢
  have hA : ∀ q : Nat, s.heap.size ≤ q → A q := fun q h => by rw [← hAe]; exact Or.inr h
  have hS : va_S A s.heap s.heap [] := va_S.rf
  have hDk : ∀ w : CS, va_D A (wM cI cZ q0 w) := fun w => D_M hD
  have hl := lv_entry ([.ref (q0 0), .int p0]) (n := 3) (Nat.le_of_ble_eq_true rfl)
  rw [lg_entry_eq]
  generalize (lg_sl ([.ref (q0 0), .int p0]) ++ List.replicate (3 - (lg_sl ([.ref (q0 0), .int p0])).length) Slot.unset).toArray = ls at hl ⊢
  have hl : lv_has ls 3 [(0, .ref (q0 0)), (1, .int p0)] := hl
  unfold wp_X7_again at hf
  have k_26 : ∀ (x1 : Int32) (x2 : Int32) (s0 : CS) (H : Heap) (locs : List Loc) (ls : Array Slot), B_X7_again_26  x1 x2 s0 Q → va_P D classes (wM cI cZ q0 s0) H → va_D A (wM cI cZ q0 s0) → va_S A s.heap H locs → lv_has ls 3 [(0, .ref (q0 0)), (1, .int x1), (2, .int x2)] → W p l e (headSpec (wsA yX7_again cX7_again 3 (some .int)) ({ frames := 1, cells := 0, slots := 0, locals := 25 })).room s m (#[.ref (q0 0), .int p0] : Array Value) below meth c H locs 0 0 (MQ below (va_Qi (fun (r : Int32) (u : CS) => Q r u) (fun u t => va_P D classes (wM cI cZ q0 u) t.heap) A) (#[.ref (q0 0), .int p0] : Array Value) s 0 0 A) (F0 m 26 ls []) := by
    intro x1 x2 s0 H locs ls hf hP hD hS hl
    unfold B_X7_again_26 at hf
    obtain ⟨I_26, ⟨n0_26, hI0_26⟩, hst_26⟩ := hf
    have main_26 : ∀ (n : Nat) (x1 : Int32) (x2 : Int32) (s0 : CS) (H : Heap) (locs : List Loc) (ls : Array Slot), I_26 n (x1, x2, s0) → va_P D classes (wM cI cZ q0 s0) H → va_D A (wM cI cZ q0 s0) → va_S A s.heap H locs → lv_has ls 3 [(0, .ref (q0 0)), (1, .int x1), (2, .int x2)] → W p l e (headSpec (wsA yX7_again cX7_again 3 (some .int)) ({ frames := 1, cells := 0, slots := 0, locals := 25 })).room s m (#[.ref (q0 0), .int p0] : Array Value) below meth c H locs 0 0 (MQ below (va_Qi (fun (r : Int32) (u : CS) => Q r u) (fun u t => va_P D classes (wM cI cZ q0 u) t.heap) A) (#[.ref (q0 0), .int p0] : Array Value) s 0 0 A) (F0 m 26 ls []) := by
      intro n
      induction n using Nat.strongRecOn with
      | _ n_26 ih_26 =>
      intro x1 x2 s0 H locs ls hI hP hD hS hl
      have hf : LB_X7_again_26 (fun z => ∃ k, k < n_26 ∧ I_26 k z)  x1 x2 s0 Q := hst_26 n_26 (x1, x2, s0) hI
      have hG_26 : ∀ (x1 : Int32) (x2 : Int32) (s0 : CS) (H : Heap) (locs : List Loc) (ls : Array Slot), (∃ k, k < n_26 ∧ I_26 k (x1, x2, s0)) → va_P D classes (wM cI cZ q0 s0) H → va_D A (wM cI cZ q0 s0) → va_S A s.heap H locs → lv_has ls 3 [(0, .ref (q0 0)), (1, .int x1), (2, .int x2)] → W p l e (headSpec (wsA yX7_again cX7_again 3 (some .int)) ({ frames := 1, cells := 0, slots := 0, locals := 25 })).room s m (#[.ref (q0 0), .int p0] : Array Value) below meth c H locs 0 0 (MQ below (va_Qi (fun (r : Int32) (u : CS) => Q r u) (fun u t => va_P D classes (wM cI cZ q0 u) t.heap) A) (#[.ref (q0 0), .int p0] : Array Value) s 0 0 A) (F0 m 26 ls []) := by
        rintro x1 x2 s0 H locs ls ⟨k, hk, hI⟩ hP hD hS hl
        exact ih_26 k hk x1 x2 s0 H locs ls hI hP hD hS hl
      unfold LB_X7_again_26 at hf
      refine lv_iload_n hx hb dX7_again_26 rfl (lv_at hl 2 rfl) ?_
      refine lv_bipush (v := (35 : Int32)) hx hb dX7_again_27 (by decide) ?_
      refine lv_icmp_ge (tgt := 55) hx hb dX7_again_29 (by decide) (fun c_1 => ?_) (fun c_1 => ?_)
      · have hf := hf.1 c_1
        refine lv_aload_n hx hb dX7_again_55 rfl (lv_at hl 0 rfl) ?_
        refine lv_iconst (v := (0 : Int32)) hx hb dX7_again_56 (by decide) ?_
        refine va_put (D := D) (ci := 5) (v := .int (0 : Int32)) (ty := .int) (C := RX7) (T := TX7) (N := 28) hx hb ht inX7 tyX7 tyX7_ok nmX7 hown hK hP hD hS 0 eM_0 rfl 17 (by decide) (ht _ tw_672) (fun _ h9 => h9) rfl pf_I rfl rfl (Nat.le_of_ble_eq_true rfl) dX7_again_57 (fun H locs hP hD hS => ?_)
        obtain ⟨s0_2, es0_2⟩ : ∃ y : CS, y = sI s0 17 (0 : Int32) := ⟨_, rfl⟩
        have hf := hf s0_2 es0_2
        have hD := hDk s0_2
        have hP : va_P D classes (wM cI cZ q0 s0_2) H := by rw [es0_2]; exact PM_I17 hP
        refine lv_aload_n hx hb dX7_again_60 rfl (lv_at hl 0 rfl) ?_
        refine va_get (D := D) (ci := 5) (v := .ref (q0 4)) (C := RX7) (T := TX7) (N := 28) hx hb ht inX7 hown hK hP 0 eM_0 rfl 5 (by decide) (ht _ tw_660) (fun _ h9 => h9) rfl dX7_again_61 ?_
        refine lv_bipush (v := (34 : Int32)) hx hb dX7_again_64 (by decide) ?_
        obtain ⟨hi_3, hf⟩ := hf
        refine va_iald hx hb hK hP 4 0 eM_4 rfl hi_3 dX7_again_66 ?_
        exact W.iret (v := ((s0_2.2.1 5) (34 : Int32).toNatClampNeg)) hx hb hr (fun t ht hW => ⟨⟨((s0_2.2.1 5) (34 : Int32).toNatClampNeg), s0_2, rfl, hf, P_heap ht hP⟩, hS.F ht⟩) hS.2.2 dX7_again_67
      · have hf := hf.2 c_1
        refine lv_aload_n hx hb dX7_again_32 rfl (lv_at hl 0 rfl) ?_
        refine va_get (D := D) (ci := 5) (v := .ref (q0 4)) (C := RX7) (T := TX7) (N := 28) hx hb ht inX7 hown hK hP 0 eM_0 rfl 5 (by decide) (ht _ tw_660) (fun _ h9 => h9) rfl dX7_again_33 ?_
        refine lv_iload_n hx hb dX7_again_36 rfl (lv_at hl 2 rfl) ?_
        refine lv_aload_n hx hb dX7_again_37 rfl (lv_at hl 0 rfl) ?_
        refine va_get (D := D) (ci := 5) (v := .ref (q0 15)) (C := RX7) (T := TX7) (N := 28) hx hb ht inX7 hown hK hP 0 eM_0 rfl 27 (by decide) (ht _ tw_682) (fun _ h9 => h9) rfl dX7_again_38 ?_
        refine lv_bipush (v := (35 : Int32)) hx hb dX7_again_41 (by decide) ?_
        refine lv_iload_n hx hb dX7_again_43 rfl (lv_at hl 1 rfl) ?_
        refine lv_imul hx hb dX7_again_44 ?_
        refine lv_iload_n hx hb dX7_again_45 rfl (lv_at hl 2 rfl) ?_
        refine lv_iadd hx hb dX7_again_46 ?_
        obtain ⟨hi_4, hf⟩ := hf
        refine va_iald hx hb hK hP 15 0 eM_15 rfl hi_4 dX7_again_47 ?_
        obtain ⟨hi_5, hf⟩ := hf
        refine va_iast hx hb hK hP hD hS 4 0 eM_4 rfl hi_5 dX7_again_48 (fun H locs hP hD hS => ?_)
        obtain ⟨s0_6, es0_6⟩ : ∃ y : CS, y = sA s0 5 x2.toNatClampNeg ((s0.2.1 27) (((35 : Int32) * x1) + x2).toNatClampNeg) := ⟨_, rfl⟩
        have hf := hf s0_6 es0_6
        have hD := hDk s0_6
        have hP : va_P D classes (wM cI cZ q0 s0_6) H := by rw [es0_6]; exact PM_F5 hP
        obtain ⟨x2_7, ex2_7⟩ : ∃ y : Int32, y = x2 + (1 : Int32) := ⟨_, rfl⟩
        have hf := hf x2_7 ex2_7
        refine lv_iinc (v := x2_7) (lv' := [(2, .int x2_7), (0, .ref (q0 0)), (1, .int x1)]) hx hb dX7_again_49 hl (k := 2) rfl (by rw [ex2_7]; rfl) (by decide) rfl (fun ls hl => ?_)
        refine lv_goto (tgt := 26) hx hb dX7_again_52 (by decide) ?_
        exact hG_26 x1 x2_7 s0_6 H locs ls hf hP hD hS (lv_sub hl [1, 2, 0] rfl)
    exact main_26 n0_26 x1 x2 s0 H locs ls hI0_26 hP hD hS hl
  have start : ∀ (H : Heap) (locs : List Loc), va_P D classes (wM cI cZ q0 s0) H → va_D A (wM cI cZ q0 s0) → va_S A s.heap H locs → W p l e (headSpec (wsA yX7_again cX7_again 3 (some .int)) ({ frames := 1, cells := 0, slots := 0, locals := 25 })).room s m (#[.ref (q0 0), .int p0] : Array Value) below meth c H locs 0 0 (MQ below (va_Qi (fun (r : Int32) (u : CS) => Q r u) (fun u t => va_P D classes (wM cI cZ q0 u) t.heap) A) (#[.ref (q0 0), .int p0] : Array Value) s 0 0 A) (F0 m 0 ls []) := by
    intro H locs hP hD hS
    refine lv_iload_n hx hb dX7_again_0 rfl (lv_at hl 1 rfl) ?_
    refine lv_i2l (v := p0.toInt64) hx hb dX7_again_1 rfl ?_
    refine lv_lconst (v := (0 : Int64)) hx hb dX7_again_2 (by decide) ?_
    refine lv_lconst (v := (1 : Int64)) hx hb dX7_again_3 (by decide) ?_
    have hPc : va_P D classes ([] : va_W) H := hP.sub [] rfl
    refine vp_callSi (W.runS (As := [.long p0.toInt64, .long (0 : Int64), .long (1 : Int64)]) (rest := []) ⟨hx, hb, hml, hown, hts⟩ (c_X7_in l D cI cZ cW  (p0.toInt64) (0 : Int64) (1 : Int64) _ hf) ⟨callB_of 3 hts (gA tw_747) rfl rfl rfl (ht _ tw_7) (ht _ tw_745) hd_X7_in ⟨Nat.le_of_ble_eq_true rfl, Nat.le_of_ble_eq_true rfl⟩, ht _ tw_746⟩ ⟨PR_blind, fun U hU hW => PR_mk hPc hK hU hW⟩ rfl rfl hl.1 rfl (lv_room (Nat.le_of_ble_eq_true rfl)) dX7_again_4 ⟨Nat.zero_le _, Nat.zero_le _⟩) (fun r_8 hf => ?_)
    refine lv_if_ne (tgt := 12) hx hb dX7_again_7 (by decide) (fun c_9 => ?_) (fun c_9 => ?_)
    · have hf := hf.1 c_9
      refine lv_aload_n hx hb dX7_again_12 rfl (lv_at hl 0 rfl) ?_
      refine va_get (D := D) (ci := 5) (v := .ref (q0 14)) (C := RX7) (T := TX7) (N := 28) hx hb ht inX7 hown hK hP 0 eM_0 rfl 26 (by decide) (ht _ tw_681) (fun _ h9 => h9) rfl dX7_again_13 ?_
      refine lv_iload_n hx hb dX7_again_16 rfl (lv_at hl 1 rfl) ?_
      obtain ⟨hi_10, hf⟩ := hf
      refine va_zald hx hb hK hP 14 1 eM_14 rfl hi_10 dX7_again_17 ?_
      refine lv_if_ne (tgt := 24) hx hb dX7_again_18 (by decide) (fun c_11 => ?_) (fun c_11 => ?_)
      · have hf := hf.1 c_11
        refine lv_iconst (v := (0 : Int32)) hx hb dX7_again_24 (by decide) ?_
        refine lv_istore_n (lv' := [(2, .int (0 : Int32)), (0, .ref (q0 0)), (1, .int p0)]) hx hb dX7_again_25 rfl hl (by decide) rfl (fun ls hl => ?_)
        exact k_26 p0 (0 : Int32) s0 H locs ls hf hP hD hS (lv_sub hl [1, 2, 0] rfl)
      · have hf := hf.2 c_11
        refine lv_bipush (v := (-3 : Int32)) hx hb dX7_again_21 (by decide) ?_
        exact W.iret (v := (-3 : Int32)) hx hb hr (fun t ht hW => ⟨⟨(-3 : Int32), s0, rfl, hf, P_heap ht hP⟩, hS.F ht⟩) hS.2.2 dX7_again_23
    · have hf := hf.2 c_9
      refine lv_iconst (v := (-1 : Int32)) hx hb dX7_again_10 (by decide) ?_
      exact W.iret (v := (-1 : Int32)) hx hb hr (fun t ht hW => ⟨⟨(-1 : Int32), s0, rfl, hf, P_heap ht hP⟩, hS.F ht⟩) hS.2.2 dX7_again_11
  exact start s.heap [] hP hD hS
def wp_X7_count (p0 : Int32) (s0 : CS) (Q : Int32 → Prop) : Prop := ((p0 = (0 : Int32) → Q (s0.1 14)) ∧ (¬ p0 = (0 : Int32) → ((p0 = (1 : Int32) → Q (s0.1 0)) ∧ (¬ p0 = (1 : Int32) → ((p0 = (2 : Int32) → Q (s0.1 1)) ∧ (¬ p0 = (2 : Int32) → ((p0 = (3 : Int32) → vp_in (34 : Int32) 70 ∧ Q ((s0.2.1 5) (34 : Int32).toNatClampNeg)) ∧ (¬ p0 = (3 : Int32) → ((p0 = (4 : Int32) → wp_X7_of (0 : Int32) (7 : Int32) s0 (fun r_7 => wp_X7_of (0 : Int32) (8 : Int32) s0 (fun r_8 => Q (((1048575 : Int32) &&& (r_7 ^^^ (-1 : Int32))) &&& (r_8 ^^^ (-1 : Int32)))))) ∧ (¬ p0 = (4 : Int32) → ((p0 = (5 : Int32) → wp_X7_of (0 : Int32) (8 : Int32) s0 (fun r_10 => Q r_10)) ∧ (¬ p0 = (5 : Int32) → ((p0 = (6 : Int32) → wp_X7_alive (0 : Int32) s0 (fun r_12 => Q r_12)) ∧ (¬ p0 = (6 : Int32) → ((p0 = (7 : Int32) → Q (s0.1 17)) ∧ (¬ p0 = (7 : Int32) → ((p0 = (8 : Int32) → Q (s0.1 21)) ∧ (¬ p0 = (8 : Int32) → Q (-2 : Int32)))))))))))))))))))
set_option maxHeartbeats 4000000 in
set_option maxRecDepth 100000 in
theorem c_X7_count (l : Launch) (D : va_G) (cI cZ cW : ClassId) (q0 : Nat → Nat) (p0 : Int32) (s0 : CS) (Q : Int32 → Prop) (hf : wp_X7_count p0 s0 Q) : Met l yX7_count (wsA yX7_count cX7_count 2 (some .int)) ({ frames := 1, cells := 0, slots := 0, locals := 24 }) (PR D cI cZ cW [.ref (q0 0), .int p0] (wM cI cZ q0 s0)) (vp_Si Q) 0 0 (fun _ => False) := by
  refine Met.ofW (cc := cX7_count) (maxL := 2) (ret := (some .int)) (by decide) rfl ?_
  intro p e s m args below meth c s₁ B hml hv
  obtain ⟨rfl, hP, hK⟩ := hv
  have hx := B.exec
  have hb := B.bytes
  have hr := B.returns
  have hts := atoms_spec (ws := (wsA yX7_count cX7_count 2 (some .int))) B.pre
  have ht : ∀ w ∈ lw_g, w.before _ s = true := fun w h => hts w (List.mem_cons_of_mem _ h)
  have hown : s.vm.findClass RX7 = some m.cls := findClass_of_methodNamed B.named
  have hlocks := B.notSynchronized
  have hl := lv_entry ([.ref (q0 0), .int p0]) (n := 2) (Nat.le_of_ble_eq_true rfl)
  rw [lg_entry_eq]
  generalize (lg_sl ([.ref (q0 0), .int p0]) ++ List.replicate (2 - (lg_sl ([.ref (q0 0), .int p0])).length) Slot.unset).toArray = ls at hl ⊢
  have hl : lv_has ls 2 [(0, .ref (q0 0)), (1, .int p0)] := hl
  unfold wp_X7_count at hf
  refine lv_iload_n hx hb dX7_count_0 rfl (lv_at hl 1 rfl) ?_
  by_cases c_1 : p0 = (0 : Int32)
  · have hf := hf.1 c_1
    refine lv_tableIn (off := 51) (tgt := 52) hx hb dX7_count_1 (by rw [c_1]; decide) (by rw [c_1]; decide) (by rw [c_1]; first | done | rfl) (by decide) ?_
    refine lv_aload_n hx hb dX7_count_52 rfl (lv_at hl 0 rfl) ?_
    refine va_get (D := D) (ci := 5) (v := .int (s0.1 14)) (C := RX7) (T := TX7) (N := 28) hx hb ht inX7 hown hK hP 0 eM_0 rfl 14 (by decide) (ht _ tw_669) (fun _ h9 => h9) rfl dX7_count_53 ?_
    exact W.iret (v := (s0.1 14)) hx hb hr (fun t ht hW => ⟨(s0.1 14), rfl, hf, ht⟩) (fun q h => absurd h List.not_mem_nil) dX7_count_56
  · have hf := hf.2 c_1
    by_cases c_2 : p0 = (1 : Int32)
    · have hf := hf.1 c_2
      refine lv_tableIn (off := 56) (tgt := 57) hx hb dX7_count_1 (by rw [c_2]; decide) (by rw [c_2]; decide) (by rw [c_2]; first | done | rfl) (by decide) ?_
      refine lv_aload_n hx hb dX7_count_57 rfl (lv_at hl 0 rfl) ?_
      refine va_get (D := D) (ci := 5) (v := .int (s0.1 0)) (C := RX7) (T := TX7) (N := 28) hx hb ht inX7 hown hK hP 0 eM_0 rfl 0 (by decide) (ht _ tw_655) (fun _ h9 => h9) rfl dX7_count_58 ?_
      exact W.iret (v := (s0.1 0)) hx hb hr (fun t ht hW => ⟨(s0.1 0), rfl, hf, ht⟩) (fun q h => absurd h List.not_mem_nil) dX7_count_61
    · have hf := hf.2 c_2
      by_cases c_3 : p0 = (2 : Int32)
      · have hf := hf.1 c_3
        refine lv_tableIn (off := 61) (tgt := 62) hx hb dX7_count_1 (by rw [c_3]; decide) (by rw [c_3]; decide) (by rw [c_3]; first | done | rfl) (by decide) ?_
        refine lv_aload_n hx hb dX7_count_62 rfl (lv_at hl 0 rfl) ?_
        refine va_get (D := D) (ci := 5) (v := .int (s0.1 1)) (C := RX7) (T := TX7) (N := 28) hx hb ht inX7 hown hK hP 0 eM_0 rfl 1 (by decide) (ht _ tw_656) (fun _ h9 => h9) rfl dX7_count_63 ?_
        exact W.iret (v := (s0.1 1)) hx hb hr (fun t ht hW => ⟨(s0.1 1), rfl, hf, ht⟩) (fun q h => absurd h List.not_mem_nil) dX7_count_66
      · have hf := hf.2 c_3
        by_cases c_4 : p0 = (3 : Int32)
        · have hf := hf.1 c_4
          refine lv_tableIn (off := 66) (tgt := 67) hx hb dX7_count_1 (by rw [c_4]; decide) (by rw [c_4]; decide) (by rw [c_4]; first | done | rfl) (by decide) ?_
          refine lv_aload_n hx hb dX7_count_67 rfl (lv_at hl 0 rfl) ?_
          refine va_get (D := D) (ci := 5) (v := .ref (q0 4)) (C := RX7) (T := TX7) (N := 28) hx hb ht inX7 hown hK hP 0 eM_0 rfl 5 (by decide) (ht _ tw_660) (fun _ h9 => h9) rfl dX7_count_68 ?_
          refine lv_bipush (v := (34 : Int32)) hx hb dX7_count_71 (by decide) ?_
          obtain ⟨hi_5, hf⟩ := hf
          refine va_iald hx hb hK hP 4 0 eM_4 rfl hi_5 dX7_count_73 ?_
          exact W.iret (v := ((s0.2.1 5) (34 : Int32).toNatClampNeg)) hx hb hr (fun t ht hW => ⟨((s0.2.1 5) (34 : Int32).toNatClampNeg), rfl, hf, ht⟩) (fun q h => absurd h List.not_mem_nil) dX7_count_74
        · have hf := hf.2 c_4
          by_cases c_6 : p0 = (4 : Int32)
          · have hf := hf.1 c_6
            refine lv_tableIn (off := 74) (tgt := 75) hx hb dX7_count_1 (by rw [c_6]; decide) (by rw [c_6]; decide) (by rw [c_6]; first | done | rfl) (by decide) ?_
            refine lv_ldc (v := (1048575 : Int32)) hx hb hown (ht _ tw_772) dX7_count_75 ?_
            refine lv_aload_n hx hb dX7_count_77 rfl (lv_at hl 0 rfl) ?_
            refine lv_iconst (v := (0 : Int32)) hx hb dX7_count_78 (by decide) ?_
            refine lv_bipush (v := (7 : Int32)) hx hb dX7_count_79 (by decide) ?_
            have hPc : va_P D classes (wM cI cZ q0 s0) s.heap := hP
            refine vp_callSi (W.runV (As := [.int (0 : Int32), .int (7 : Int32)]) (rest := [.int (1048575 : Int32)]) ⟨hx, hb, hml, hown, hts⟩ (c_X7_of l D cI cZ cW q0 (0 : Int32) (7 : Int32) s0 _ hf) ⟨callB_of 2 hts (gA tw_807) rfl rfl rfl (ht _ tw_7) (ht _ tw_804) hd_X7_of ⟨Nat.le_of_ble_eq_true rfl, Nat.le_of_ble_eq_true rfl⟩, ht _ tw_806, ht _ twp_25⟩ ⟨PR_blind, va_recv hK hP (ci := 5) (q0 := 0) rfl eM_0, fun U hU hW => PR_mk hPc hK hU hW⟩ rfl rfl hl.1 rfl (lv_room (Nat.le_of_ble_eq_true rfl)) dX7_count_81 ⟨Nat.zero_le _, Nat.zero_le _⟩) (fun r_7 hf => ?_)
            refine lv_iconst (v := (-1 : Int32)) hx hb dX7_count_84 (by decide) ?_
            refine lv_ixor hx hb dX7_count_85 ?_
            refine lv_iand hx hb dX7_count_86 ?_
            refine lv_aload_n hx hb dX7_count_87 rfl (lv_at hl 0 rfl) ?_
            refine lv_iconst (v := (0 : Int32)) hx hb dX7_count_88 (by decide) ?_
            refine lv_bipush (v := (8 : Int32)) hx hb dX7_count_89 (by decide) ?_
            have hPc : va_P D classes (wM cI cZ q0 s0) s.heap := hP
            refine vp_callSi (W.runV (As := [.int (0 : Int32), .int (8 : Int32)]) (rest := [.int ((1048575 : Int32) &&& (r_7 ^^^ (-1 : Int32)))]) ⟨hx, hb, hml, hown, hts⟩ (c_X7_of l D cI cZ cW q0 (0 : Int32) (8 : Int32) s0 _ hf) ⟨callB_of 2 hts (gA tw_807) rfl rfl rfl (ht _ tw_7) (ht _ tw_804) hd_X7_of ⟨Nat.le_of_ble_eq_true rfl, Nat.le_of_ble_eq_true rfl⟩, ht _ tw_806, ht _ twp_25⟩ ⟨PR_blind, va_recv hK hP (ci := 5) (q0 := 0) rfl eM_0, fun U hU hW => PR_mk hPc hK hU hW⟩ rfl rfl hl.1 rfl (lv_room (Nat.le_of_ble_eq_true rfl)) dX7_count_91 ⟨Nat.zero_le _, Nat.zero_le _⟩) (fun r_8 hf => ?_)
            refine lv_iconst (v := (-1 : Int32)) hx hb dX7_count_94 (by decide) ?_
            refine lv_ixor hx hb dX7_count_95 ?_
            refine lv_iand hx hb dX7_count_96 ?_
            exact W.iret (v := (((1048575 : Int32) &&& (r_7 ^^^ (-1 : Int32))) &&& (r_8 ^^^ (-1 : Int32)))) hx hb hr (fun t ht hW => ⟨(((1048575 : Int32) &&& (r_7 ^^^ (-1 : Int32))) &&& (r_8 ^^^ (-1 : Int32))), rfl, hf, ht⟩) (fun q h => absurd h List.not_mem_nil) dX7_count_97
          · have hf := hf.2 c_6
            by_cases c_9 : p0 = (5 : Int32)
            · have hf := hf.1 c_9
              refine lv_tableIn (off := 97) (tgt := 98) hx hb dX7_count_1 (by rw [c_9]; decide) (by rw [c_9]; decide) (by rw [c_9]; first | done | rfl) (by decide) ?_
              refine lv_aload_n hx hb dX7_count_98 rfl (lv_at hl 0 rfl) ?_
              refine lv_iconst (v := (0 : Int32)) hx hb dX7_count_99 (by decide) ?_
              refine lv_bipush (v := (8 : Int32)) hx hb dX7_count_100 (by decide) ?_
              have hPc : va_P D classes (wM cI cZ q0 s0) s.heap := hP
              refine vp_callSi (W.runV (As := [.int (0 : Int32), .int (8 : Int32)]) (rest := []) ⟨hx, hb, hml, hown, hts⟩ (c_X7_of l D cI cZ cW q0 (0 : Int32) (8 : Int32) s0 _ hf) ⟨callB_of 2 hts (gA tw_807) rfl rfl rfl (ht _ tw_7) (ht _ tw_804) hd_X7_of ⟨Nat.le_of_ble_eq_true rfl, Nat.le_of_ble_eq_true rfl⟩, ht _ tw_806, ht _ twp_25⟩ ⟨PR_blind, va_recv hK hP (ci := 5) (q0 := 0) rfl eM_0, fun U hU hW => PR_mk hPc hK hU hW⟩ rfl rfl hl.1 rfl (lv_room (Nat.le_of_ble_eq_true rfl)) dX7_count_102 ⟨Nat.zero_le _, Nat.zero_le _⟩) (fun r_10 hf => ?_)
              exact W.iret (v := r_10) hx hb hr (fun t ht hW => ⟨r_10, rfl, hf, ht⟩) (fun q h => absurd h List.not_mem_nil) dX7_count_105
            · have hf := hf.2 c_9
              by_cases c_11 : p0 = (6 : Int32)
              · have hf := hf.1 c_11
                refine lv_tableIn (off := 105) (tgt := 106) hx hb dX7_count_1 (by rw [c_11]; decide) (by rw [c_11]; decide) (by rw [c_11]; first | done | rfl) (by decide) ?_
                refine lv_aload_n hx hb dX7_count_106 rfl (lv_at hl 0 rfl) ?_
                refine lv_iconst (v := (0 : Int32)) hx hb dX7_count_107 (by decide) ?_
                have hPc : va_P D classes (wM cI cZ q0 s0) s.heap := hP
                refine vp_callSi (W.runV (As := [.int (0 : Int32)]) (rest := []) ⟨hx, hb, hml, hown, hts⟩ (c_X7_alive l D cI cZ cW q0 (0 : Int32) s0 _ hf) ⟨callB_of 1 hts (gA tw_936) rfl rfl rfl (ht _ tw_7) (ht _ tw_933) hd_X7_alive ⟨Nat.le_of_ble_eq_true rfl, Nat.le_of_ble_eq_true rfl⟩, ht _ tw_935, ht _ twp_44⟩ ⟨PR_blind, va_recv hK hP (ci := 5) (q0 := 0) rfl eM_0, fun U hU hW => PR_mk hPc hK hU hW⟩ rfl rfl hl.1 rfl (lv_room (Nat.le_of_ble_eq_true rfl)) dX7_count_108 ⟨Nat.zero_le _, Nat.zero_le _⟩) (fun r_12 hf => ?_)
                exact W.iret (v := r_12) hx hb hr (fun t ht hW => ⟨r_12, rfl, hf, ht⟩) (fun q h => absurd h List.not_mem_nil) dX7_count_111
              · have hf := hf.2 c_11
                by_cases c_13 : p0 = (7 : Int32)
                · have hf := hf.1 c_13
                  refine lv_tableIn (off := 111) (tgt := 112) hx hb dX7_count_1 (by rw [c_13]; decide) (by rw [c_13]; decide) (by rw [c_13]; first | done | rfl) (by decide) ?_
                  refine lv_aload_n hx hb dX7_count_112 rfl (lv_at hl 0 rfl) ?_
                  refine va_get (D := D) (ci := 5) (v := .int (s0.1 17)) (C := RX7) (T := TX7) (N := 28) hx hb ht inX7 hown hK hP 0 eM_0 rfl 17 (by decide) (ht _ tw_672) (fun _ h9 => h9) rfl dX7_count_113 ?_
                  exact W.iret (v := (s0.1 17)) hx hb hr (fun t ht hW => ⟨(s0.1 17), rfl, hf, ht⟩) (fun q h => absurd h List.not_mem_nil) dX7_count_116
                · have hf := hf.2 c_13
                  by_cases c_14 : p0 = (8 : Int32)
                  · have hf := hf.1 c_14
                    refine lv_tableIn (off := 116) (tgt := 117) hx hb dX7_count_1 (by rw [c_14]; decide) (by rw [c_14]; decide) (by rw [c_14]; first | done | rfl) (by decide) ?_
                    refine lv_aload_n hx hb dX7_count_117 rfl (lv_at hl 0 rfl) ?_
                    refine va_get (D := D) (ci := 5) (v := .int (s0.1 21)) (C := RX7) (T := TX7) (N := 28) hx hb ht inX7 hown hK hP 0 eM_0 rfl 21 (by decide) (ht _ tw_676) (fun _ h9 => h9) rfl dX7_count_118 ?_
                    exact W.iret (v := (s0.1 21)) hx hb hr (fun t ht hW => ⟨(s0.1 21), rfl, hf, ht⟩) (fun q h => absurd h List.not_mem_nil) dX7_count_121
                  · have hf := hf.2 c_14
                    refine lv_tableOut (tgt := 122) hx hb dX7_count_1 (by have h0 := lv_neT (a := 0) c_1 (by decide); have h1 := lv_neT (a := 1) c_2 (by decide); have h2 := lv_neT (a := 2) c_3 (by decide); have h3 := lv_neT (a := 3) c_4 (by decide); have h4 := lv_neT (a := 4) c_6 (by decide); have h5 := lv_neT (a := 5) c_9 (by decide); have h6 := lv_neT (a := 6) c_11 (by decide); have h7 := lv_neT (a := 7) c_13 (by decide); have h8 := lv_neT (a := 8) c_14 (by decide); omega) (by decide) ?_
                    refine lv_bipush (v := (-2 : Int32)) hx hb dX7_count_122 (by decide) ?_
                    exact W.iret (v := (-2 : Int32)) hx hb hr (fun t ht hW => ⟨(-2 : Int32), rfl, hf, ht⟩) (fun q h => absurd h List.not_mem_nil) dX7_count_124
