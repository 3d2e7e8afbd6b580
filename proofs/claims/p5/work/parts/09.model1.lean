theorem dX7_dairy_0 : decode cX7_dairy 0 = .ok (.aload_n 0, 1) := by decide +kernel
theorem dX7_dairy_1 : decode cX7_dairy 1 = .ok (.invokevirtual 99, 3) := by decide +kernel
theorem dX7_dairy_4 : decode cX7_dairy 4 = .ok (.bipush (-9), 2) := by decide +kernel
theorem dX7_dairy_6 : decode cX7_dairy 6 = .ok (.if_icmp .eq 6, 3) := by decide +kernel
theorem dX7_dairy_9 : decode cX7_dairy 9 = .ok (.bipush (-3), 2) := by decide +kernel
theorem dX7_dairy_11 : decode cX7_dairy 11 = .ok (.ireturn, 1) := by decide +kernel
theorem dX7_dairy_12 : decode cX7_dairy 12 = .ok (.aload_n 0, 1) := by decide +kernel
theorem dX7_dairy_13 : decode cX7_dairy 13 = .ok (.aload_n 0, 1) := by decide +kernel
theorem dX7_dairy_14 : decode cX7_dairy 14 = .ok (.getfield 78, 3) := by decide +kernel
theorem dX7_dairy_17 : decode cX7_dairy 17 = .ok (.putfield 103, 3) := by decide +kernel
theorem dX7_dairy_20 : decode cX7_dairy 20 = .ok (.aload_n 0, 1) := by decide +kernel
theorem dX7_dairy_21 : decode cX7_dairy 21 = .ok (.aload_n 0, 1) := by decide +kernel
theorem dX7_dairy_22 : decode cX7_dairy 22 = .ok (.getfield 84, 3) := by decide +kernel
theorem dX7_dairy_25 : decode cX7_dairy 25 = .ok (.putfield 106, 3) := by decide +kernel
theorem dX7_dairy_28 : decode cX7_dairy 28 = .ok (.iconst 0, 1) := by decide +kernel
theorem dX7_dairy_29 : decode cX7_dairy 29 = .ok (.istore_n 1, 1) := by decide +kernel
theorem dX7_dairy_30 : decode cX7_dairy 30 = .ok (.iload_n 1, 1) := by decide +kernel
theorem dX7_dairy_31 : decode cX7_dairy 31 = .ok (.bipush 35, 2) := by decide +kernel
theorem dX7_dairy_33 : decode cX7_dairy 33 = .ok (.if_icmp .ge 38, 3) := by decide +kernel
theorem dX7_dairy_36 : decode cX7_dairy 36 = .ok (.aload_n 0, 1) := by decide +kernel
theorem dX7_dairy_37 : decode cX7_dairy 37 = .ok (.getfield 19, 3) := by decide +kernel
theorem dX7_dairy_40 : decode cX7_dairy 40 = .ok (.iload_n 1, 1) := by decide +kernel
theorem dX7_dairy_41 : decode cX7_dairy 41 = .ok (.iload_n 1, 1) := by decide +kernel
theorem dX7_dairy_42 : decode cX7_dairy 42 = .ok (.bipush 20, 2) := by decide +kernel
theorem dX7_dairy_44 : decode cX7_dairy 44 = .ok (.if_icmp .ge 8, 3) := by decide +kernel
theorem dX7_dairy_47 : decode cX7_dairy 47 = .ok (.bipush 7, 2) := by decide +kernel
theorem dX7_dairy_49 : decode cX7_dairy 49 = .ok (.goto 15, 3) := by decide +kernel
theorem dX7_dairy_52 : decode cX7_dairy 52 = .ok (.iload_n 1, 1) := by decide +kernel
theorem dX7_dairy_53 : decode cX7_dairy 53 = .ok (.bipush 30, 2) := by decide +kernel
theorem dX7_dairy_55 : decode cX7_dairy 55 = .ok (.if_icmp .ge 8, 3) := by decide +kernel
theorem dX7_dairy_58 : decode cX7_dairy 58 = .ok (.bipush (-9), 2) := by decide +kernel
theorem dX7_dairy_60 : decode cX7_dairy 60 = .ok (.goto 4, 3) := by decide +kernel
theorem dX7_dairy_63 : decode cX7_dairy 63 = .ok (.iconst 0, 1) := by decide +kernel
theorem dX7_dairy_64 : decode cX7_dairy 64 = .ok (.iastore, 1) := by decide +kernel
theorem dX7_dairy_65 : decode cX7_dairy 65 = .ok (.iinc 1 1, 3) := by decide +kernel
theorem dX7_dairy_68 : decode cX7_dairy 68 = .ok (.goto (-38), 3) := by decide +kernel
theorem dX7_dairy_71 : decode cX7_dairy 71 = .ok (.iconst 0, 1) := by decide +kernel
theorem dX7_dairy_72 : decode cX7_dairy 72 = .ok (.istore_n 1, 1) := by decide +kernel
theorem dX7_dairy_73 : decode cX7_dairy 73 = .ok (.iload_n 1, 1) := by decide +kernel
theorem dX7_dairy_74 : decode cX7_dairy 74 = .ok (.iconst 4, 1) := by decide +kernel
theorem dX7_dairy_75 : decode cX7_dairy 75 = .ok (.if_icmp .ge 33, 3) := by decide +kernel
theorem dX7_dairy_78 : decode cX7_dairy 78 = .ok (.aload_n 0, 1) := by decide +kernel
theorem dX7_dairy_79 : decode cX7_dairy 79 = .ok (.getfield 7, 3) := by decide +kernel
theorem dX7_dairy_82 : decode cX7_dairy 82 = .ok (.iload_n 1, 1) := by decide +kernel
theorem dX7_dairy_83 : decode cX7_dairy 83 = .ok (.aload_n 0, 1) := by decide +kernel
theorem dX7_dairy_84 : decode cX7_dairy 84 = .ok (.getfield 22, 3) := by decide +kernel
theorem dX7_dairy_87 : decode cX7_dairy 87 = .ok (.iload_n 1, 1) := by decide +kernel
theorem dX7_dairy_88 : decode cX7_dairy 88 = .ok (.iaload, 1) := by decide +kernel
theorem dX7_dairy_89 : decode cX7_dairy 89 = .ok (.iastore, 1) := by decide +kernel
theorem dX7_dairy_90 : decode cX7_dairy 90 = .ok (.aload_n 0, 1) := by decide +kernel
theorem dX7_dairy_91 : decode cX7_dairy 91 = .ok (.getfield 13, 3) := by decide +kernel
theorem dX7_dairy_94 : decode cX7_dairy 94 = .ok (.iload_n 1, 1) := by decide +kernel
theorem dX7_dairy_95 : decode cX7_dairy 95 = .ok (.aload_n 0, 1) := by decide +kernel
theorem dX7_dairy_96 : decode cX7_dairy 96 = .ok (.getfield 25, 3) := by decide +kernel
theorem dX7_dairy_99 : decode cX7_dairy 99 = .ok (.iload_n 1, 1) := by decide +kernel
theorem dX7_dairy_100 : decode cX7_dairy 100 = .ok (.iaload, 1) := by decide +kernel
theorem dX7_dairy_101 : decode cX7_dairy 101 = .ok (.iastore, 1) := by decide +kernel
theorem dX7_dairy_102 : decode cX7_dairy 102 = .ok (.iinc 1 1, 3) := by decide +kernel
theorem dX7_dairy_105 : decode cX7_dairy 105 = .ok (.goto (-32), 3) := by decide +kernel
theorem dX7_dairy_108 : decode cX7_dairy 108 = .ok (.iconst 0, 1) := by decide +kernel
theorem dX7_dairy_109 : decode cX7_dairy 109 = .ok (.istore_n 1, 1) := by decide +kernel
theorem dX7_dairy_110 : decode cX7_dairy 110 = .ok (.iload_n 1, 1) := by decide +kernel
theorem dX7_dairy_111 : decode cX7_dairy 111 = .ok (.aload_n 0, 1) := by decide +kernel
theorem dX7_dairy_112 : decode cX7_dairy 112 = .ok (.getfield 106, 3) := by decide +kernel
theorem dX7_dairy_115 : decode cX7_dairy 115 = .ok (.if_icmp .ge 58, 3) := by decide +kernel
theorem dX7_dairy_118 : decode cX7_dairy 118 = .ok (.aload_n 0, 1) := by decide +kernel
theorem dX7_dairy_119 : decode cX7_dairy 119 = .ok (.getfield 19, 3) := by decide +kernel
theorem dX7_dairy_122 : decode cX7_dairy 122 = .ok (.aload_n 0, 1) := by decide +kernel
theorem dX7_dairy_123 : decode cX7_dairy 123 = .ok (.getfield 28, 3) := by decide +kernel
theorem dX7_dairy_126 : decode cX7_dairy 126 = .ok (.iconst 3, 1) := by decide +kernel
theorem dX7_dairy_127 : decode cX7_dairy 127 = .ok (.iload_n 1, 1) := by decide +kernel
theorem dX7_dairy_128 : decode cX7_dairy 128 = .ok (.imul, 1) := by decide +kernel
theorem dX7_dairy_129 : decode cX7_dairy 129 = .ok (.iaload, 1) := by decide +kernel
theorem dX7_dairy_130 : decode cX7_dairy 130 = .ok (.iload_n 1, 1) := by decide +kernel
theorem dX7_dairy_131 : decode cX7_dairy 131 = .ok (.iastore, 1) := by decide +kernel
theorem dX7_dairy_132 : decode cX7_dairy 132 = .ok (.aload_n 0, 1) := by decide +kernel
theorem dX7_dairy_133 : decode cX7_dairy 133 = .ok (.getfield 19, 3) := by decide +kernel
theorem dX7_dairy_136 : decode cX7_dairy 136 = .ok (.bipush 20, 2) := by decide +kernel
theorem dX7_dairy_138 : decode cX7_dairy 138 = .ok (.iload_n 1, 1) := by decide +kernel
theorem dX7_dairy_139 : decode cX7_dairy 139 = .ok (.iadd, 1) := by decide +kernel
theorem dX7_dairy_140 : decode cX7_dairy 140 = .ok (.aload_n 0, 1) := by decide +kernel
theorem dX7_dairy_141 : decode cX7_dairy 141 = .ok (.getfield 28, 3) := by decide +kernel
theorem dX7_dairy_144 : decode cX7_dairy 144 = .ok (.iconst 3, 1) := by decide +kernel
theorem dX7_dairy_145 : decode cX7_dairy 145 = .ok (.iload_n 1, 1) := by decide +kernel
theorem dX7_dairy_146 : decode cX7_dairy 146 = .ok (.imul, 1) := by decide +kernel
theorem dX7_dairy_147 : decode cX7_dairy 147 = .ok (.iconst 1, 1) := by decide +kernel
theorem dX7_dairy_148 : decode cX7_dairy 148 = .ok (.iadd, 1) := by decide +kernel
theorem dX7_dairy_149 : decode cX7_dairy 149 = .ok (.iaload, 1) := by decide +kernel
theorem dX7_dairy_150 : decode cX7_dairy 150 = .ok (.iastore, 1) := by decide +kernel
theorem dX7_dairy_151 : decode cX7_dairy 151 = .ok (.aload_n 0, 1) := by decide +kernel
theorem dX7_dairy_152 : decode cX7_dairy 152 = .ok (.getfield 16, 3) := by decide +kernel
theorem dX7_dairy_155 : decode cX7_dairy 155 = .ok (.iload_n 1, 1) := by decide +kernel
theorem dX7_dairy_156 : decode cX7_dairy 156 = .ok (.aload_n 0, 1) := by decide +kernel
theorem dX7_dairy_157 : decode cX7_dairy 157 = .ok (.getfield 28, 3) := by decide +kernel
theorem dX7_dairy_160 : decode cX7_dairy 160 = .ok (.iconst 3, 1) := by decide +kernel
theorem dX7_dairy_161 : decode cX7_dairy 161 = .ok (.iload_n 1, 1) := by decide +kernel
theorem dX7_dairy_162 : decode cX7_dairy 162 = .ok (.imul, 1) := by decide +kernel
theorem dX7_dairy_163 : decode cX7_dairy 163 = .ok (.iconst 2, 1) := by decide +kernel
theorem dX7_dairy_164 : decode cX7_dairy 164 = .ok (.iadd, 1) := by decide +kernel
theorem dX7_dairy_165 : decode cX7_dairy 165 = .ok (.iaload, 1) := by decide +kernel
theorem dX7_dairy_166 : decode cX7_dairy 166 = .ok (.iastore, 1) := by decide +kernel
theorem dX7_dairy_167 : decode cX7_dairy 167 = .ok (.iinc 1 1, 3) := by decide +kernel
theorem dX7_dairy_170 : decode cX7_dairy 170 = .ok (.goto (-60), 3) := by decide +kernel
theorem dX7_dairy_173 : decode cX7_dairy 173 = .ok (.aload_n 0, 1) := by decide +kernel
theorem dX7_dairy_174 : decode cX7_dairy 174 = .ok (.iconst 0, 1) := by decide +kernel
theorem dX7_dairy_175 : decode cX7_dairy 175 = .ok (.putfield 109, 3) := by decide +kernel
theorem dX7_dairy_178 : decode cX7_dairy 178 = .ok (.aload_n 0, 1) := by decide +kernel
theorem dX7_dairy_179 : decode cX7_dairy 179 = .ok (.getfield 49, 3) := by decide +kernel
theorem dX7_dairy_182 : decode cX7_dairy 182 = .ok (.iconst 0, 1) := by decide +kernel
theorem dX7_dairy_183 : decode cX7_dairy 183 = .ok (.iconst 0, 1) := by decide +kernel
theorem dX7_dairy_184 : decode cX7_dairy 184 = .ok (.bastore, 1) := by decide +kernel
theorem dX7_dairy_185 : decode cX7_dairy 185 = .ok (.aload_n 0, 1) := by decide +kernel
theorem dX7_dairy_186 : decode cX7_dairy 186 = .ok (.getfield 49, 3) := by decide +kernel
theorem dX7_dairy_189 : decode cX7_dairy 189 = .ok (.iconst 1, 1) := by decide +kernel
theorem dX7_dairy_190 : decode cX7_dairy 190 = .ok (.iconst 0, 1) := by decide +kernel
theorem dX7_dairy_191 : decode cX7_dairy 191 = .ok (.bastore, 1) := by decide +kernel
theorem dX7_dairy_192 : decode cX7_dairy 192 = .ok (.bipush 10, 2) := by decide +kernel
theorem dX7_dairy_194 : decode cX7_dairy 194 = .ok (.aload_n 0, 1) := by decide +kernel
theorem dX7_dairy_195 : decode cX7_dairy 195 = .ok (.getfield 103, 3) := by decide +kernel
theorem dX7_dairy_198 : decode cX7_dairy 198 = .ok (.imul, 1) := by decide +kernel
theorem dX7_dairy_199 : decode cX7_dairy 199 = .ok (.aload_n 0, 1) := by decide +kernel
theorem dX7_dairy_200 : decode cX7_dairy 200 = .ok (.getfield 106, 3) := by decide +kernel
theorem dX7_dairy_203 : decode cX7_dairy 203 = .ok (.iadd, 1) := by decide +kernel
theorem dX7_dairy_204 : decode cX7_dairy 204 = .ok (.ireturn, 1) := by decide +kernel
theorem dX7_isOwner_0 : decode cX7_isOwner 0 = .ok (.iload_n 1, 1) := by decide +kernel
theorem dX7_isOwner_1 : decode cX7_isOwner 1 = .ok (.i2l, 1) := by decide +kernel
theorem dX7_isOwner_2 : decode cX7_isOwner 2 = .ok (.lconst 0, 1) := by decide +kernel
theorem dX7_isOwner_3 : decode cX7_isOwner 3 = .ok (.aload_n 0, 1) := by decide +kernel
theorem dX7_isOwner_4 : decode cX7_isOwner 4 = .ok (.getfield 103, 3) := by decide +kernel
theorem dX7_isOwner_7 : decode cX7_isOwner 7 = .ok (.iconst 1, 1) := by decide +kernel
theorem dX7_isOwner_8 : decode cX7_isOwner 8 = .ok (.isub, 1) := by decide +kernel
theorem dX7_isOwner_9 : decode cX7_isOwner 9 = .ok (.i2l, 1) := by decide +kernel
theorem dX7_isOwner_10 : decode cX7_isOwner 10 = .ok (.invokestatic 58, 3) := by decide +kernel
theorem dX7_isOwner_13 : decode cX7_isOwner 13 = .ok (.ireturn, 1) := by decide +kernel
theorem dX7_isHole_0 : decode cX7_isHole 0 = .ok (.iload_n 1, 1) := by decide +kernel
theorem dX7_isHole_1 : decode cX7_isHole 1 = .ok (.i2l, 1) := by decide +kernel
theorem dX7_isHole_2 : decode cX7_isHole 2 = .ok (.lconst 0, 1) := by decide +kernel
theorem dX7_isHole_3 : decode cX7_isHole 3 = .ok (.aload_n 0, 1) := by decide +kernel
theorem dX7_isHole_4 : decode cX7_isHole 4 = .ok (.getfield 106, 3) := by decide +kernel
theorem dX7_isHole_7 : decode cX7_isHole 7 = .ok (.iconst 1, 1) := by decide +kernel
theorem dX7_isHole_8 : decode cX7_isHole 8 = .ok (.isub, 1) := by decide +kernel
theorem dX7_isHole_9 : decode cX7_isHole 9 = .ok (.i2l, 1) := by decide +kernel
theorem dX7_isHole_10 : decode cX7_isHole 10 = .ok (.invokestatic 58, 3) := by decide +kernel
theorem dX7_isHole_13 : decode cX7_isHole 13 = .ok (.ireturn, 1) := by decide +kernel
theorem dX7_isCell_0 : decode cX7_isCell 0 = .ok (.iload_n 0, 1) := by decide +kernel
theorem dX7_isCell_1 : decode cX7_isCell 1 = .ok (.i2l, 1) := by decide +kernel
theorem dX7_isCell_2 : decode cX7_isCell 2 = .ok (.lconst 0, 1) := by decide +kernel
theorem dX7_isCell_3 : decode cX7_isCell 3 = .ok (.ldc2_w 72, 3) := by decide +kernel
theorem dX7_isCell_6 : decode cX7_isCell 6 = .ok (.invokestatic 58, 3) := by decide +kernel
theorem dX7_isCell_9 : decode cX7_isCell 9 = .ok (.ireturn, 1) := by decide +kernel
theorem dX7_of_0 : decode cX7_of 0 = .ok (.iconst 0, 1) := by decide +kernel
theorem dX7_of_1 : decode cX7_of 1 = .ok (.istore_n 3, 1) := by decide +kernel
theorem dX7_of_2 : decode cX7_of 2 = .ok (.iconst 0, 1) := by decide +kernel
theorem dX7_of_3 : decode cX7_of 3 = .ok (.istore 4, 2) := by decide +kernel
theorem dX7_of_5 : decode cX7_of 5 = .ok (.iload 4, 2) := by decide +kernel
theorem dX7_of_7 : decode cX7_of 7 = .ok (.bipush 20, 2) := by decide +kernel
theorem dX7_of_9 : decode cX7_of 9 = .ok (.if_icmp .ge 36, 3) := by decide +kernel
theorem dX7_of_12 : decode cX7_of 12 = .ok (.iload_n 3, 1) := by decide +kernel
theorem dX7_of_13 : decode cX7_of 13 = .ok (.aload_n 0, 1) := by decide +kernel
theorem dX7_of_14 : decode cX7_of 14 = .ok (.getfield 19, 3) := by decide +kernel
theorem dX7_of_17 : decode cX7_of 17 = .ok (.bipush 35, 2) := by decide +kernel
theorem dX7_of_19 : decode cX7_of 19 = .ok (.iload_n 1, 1) := by decide +kernel
theorem dX7_of_20 : decode cX7_of 20 = .ok (.imul, 1) := by decide +kernel
theorem dX7_of_21 : decode cX7_of 21 = .ok (.iload 4, 2) := by decide +kernel
theorem dX7_of_23 : decode cX7_of 23 = .ok (.iadd, 1) := by decide +kernel
theorem dX7_of_24 : decode cX7_of 24 = .ok (.iaload, 1) := by decide +kernel
theorem dX7_of_25 : decode cX7_of 25 = .ok (.iload_n 2, 1) := by decide +kernel
theorem dX7_of_26 : decode cX7_of 26 = .ok (.if_icmp .ne 10, 3) := by decide +kernel
theorem dX7_of_29 : decode cX7_of 29 = .ok (.iconst 1, 1) := by decide +kernel
theorem dX7_of_30 : decode cX7_of 30 = .ok (.iload 4, 2) := by decide +kernel
theorem dX7_of_32 : decode cX7_of 32 = .ok (.ishl, 1) := by decide +kernel
theorem dX7_of_33 : decode cX7_of 33 = .ok (.goto 4, 3) := by decide +kernel
theorem dX7_of_36 : decode cX7_of 36 = .ok (.iconst 0, 1) := by decide +kernel
theorem dX7_of_37 : decode cX7_of 37 = .ok (.ior, 1) := by decide +kernel
theorem dX7_of_38 : decode cX7_of 38 = .ok (.istore_n 3, 1) := by decide +kernel
theorem dX7_of_39 : decode cX7_of 39 = .ok (.iinc 4 1, 3) := by decide +kernel
theorem dX7_of_42 : decode cX7_of 42 = .ok (.goto (-37), 3) := by decide +kernel
theorem dX7_of_45 : decode cX7_of 45 = .ok (.iload_n 3, 1) := by decide +kernel
theorem dX7_of_46 : decode cX7_of 46 = .ok (.ireturn, 1) := by decide +kernel
theorem dX7_beside_0 : decode cX7_beside 0 = .ok (.iload_n 0, 1) := by decide +kernel
theorem dX7_beside_1 : decode cX7_beside 1 = .ok (.iconst 5, 1) := by decide +kernel
theorem dX7_beside_2 : decode cX7_beside 2 = .ok (.ishl, 1) := by decide +kernel
theorem dX7_beside_3 : decode cX7_beside 3 = .ok (.iload_n 0, 1) := by decide +kernel
theorem dX7_beside_4 : decode cX7_beside 4 = .ok (.iconst 5, 1) := by decide +kernel
theorem dX7_beside_5 : decode cX7_beside 5 = .ok (.ishr, 1) := by decide +kernel
theorem dX7_beside_6 : decode cX7_beside 6 = .ok (.ior, 1) := by decide +kernel
theorem dX7_beside_7 : decode cX7_beside 7 = .ok (.istore_n 1, 1) := by decide +kernel
theorem dX7_beside_8 : decode cX7_beside 8 = .ok (.iconst 0, 1) := by decide +kernel
theorem dX7_beside_9 : decode cX7_beside 9 = .ok (.istore_n 2, 1) := by decide +kernel
theorem dX7_beside_10 : decode cX7_beside 10 = .ok (.iconst 0, 1) := by decide +kernel
theorem dX7_beside_11 : decode cX7_beside 11 = .ok (.istore_n 3, 1) := by decide +kernel
theorem dX7_beside_12 : decode cX7_beside 12 = .ok (.iload_n 3, 1) := by decide +kernel
theorem dX7_beside_13 : decode cX7_beside 13 = .ok (.iconst 4, 1) := by decide +kernel
theorem dX7_beside_14 : decode cX7_beside 14 = .ok (.if_icmp .ge 17, 3) := by decide +kernel
theorem dX7_beside_17 : decode cX7_beside 17 = .ok (.iload_n 2, 1) := by decide +kernel
theorem dX7_beside_18 : decode cX7_beside 18 = .ok (.iconst 1, 1) := by decide +kernel
theorem dX7_beside_19 : decode cX7_beside 19 = .ok (.iconst 5, 1) := by decide +kernel
theorem dX7_beside_20 : decode cX7_beside 20 = .ok (.iload_n 3, 1) := by decide +kernel
theorem dX7_beside_21 : decode cX7_beside 21 = .ok (.imul, 1) := by decide +kernel
theorem dX7_beside_22 : decode cX7_beside 22 = .ok (.ishl, 1) := by decide +kernel
theorem dX7_beside_23 : decode cX7_beside 23 = .ok (.ior, 1) := by decide +kernel
theorem dX7_beside_24 : decode cX7_beside 24 = .ok (.istore_n 2, 1) := by decide +kernel
theorem dX7_beside_25 : decode cX7_beside 25 = .ok (.iinc 3 1, 3) := by decide +kernel
theorem dX7_beside_28 : decode cX7_beside 28 = .ok (.goto (-16), 3) := by decide +kernel
theorem dX7_beside_31 : decode cX7_beside 31 = .ok (.iload_n 1, 1) := by decide +kernel
theorem dX7_beside_32 : decode cX7_beside 32 = .ok (.iload_n 0, 1) := by decide +kernel
theorem dX7_beside_33 : decode cX7_beside 33 = .ok (.iload_n 2, 1) := by decide +kernel
theorem dX7_beside_34 : decode cX7_beside 34 = .ok (.iconst (-1), 1) := by decide +kernel
theorem dX7_beside_35 : decode cX7_beside 35 = .ok (.ixor, 1) := by decide +kernel
theorem dX7_beside_36 : decode cX7_beside 36 = .ok (.iand, 1) := by decide +kernel
theorem dX7_beside_37 : decode cX7_beside 37 = .ok (.iconst 1, 1) := by decide +kernel
theorem dX7_beside_38 : decode cX7_beside 38 = .ok (.ishr, 1) := by decide +kernel
theorem dX7_beside_39 : decode cX7_beside 39 = .ok (.ior, 1) := by decide +kernel
theorem dX7_beside_40 : decode cX7_beside 40 = .ok (.iload_n 0, 1) := by decide +kernel
theorem dX7_beside_41 : decode cX7_beside 41 = .ok (.iload_n 2, 1) := by decide +kernel
theorem dX7_beside_42 : decode cX7_beside 42 = .ok (.iconst 4, 1) := by decide +kernel
theorem dX7_beside_43 : decode cX7_beside 43 = .ok (.ishl, 1) := by decide +kernel
theorem dX7_beside_44 : decode cX7_beside 44 = .ok (.iconst (-1), 1) := by decide +kernel
theorem dX7_beside_45 : decode cX7_beside 45 = .ok (.ixor, 1) := by decide +kernel
theorem dX7_beside_46 : decode cX7_beside 46 = .ok (.iand, 1) := by decide +kernel
theorem dX7_beside_47 : decode cX7_beside 47 = .ok (.iconst 1, 1) := by decide +kernel
theorem dX7_beside_48 : decode cX7_beside 48 = .ok (.ishl, 1) := by decide +kernel
theorem dX7_beside_49 : decode cX7_beside 49 = .ok (.ior, 1) := by decide +kernel
theorem dX7_beside_50 : decode cX7_beside 50 = .ok (.ldc 98, 2) := by decide +kernel
theorem dX7_beside_52 : decode cX7_beside 52 = .ok (.iand, 1) := by decide +kernel
theorem dX7_beside_53 : decode cX7_beside 53 = .ok (.ireturn, 1) := by decide +kernel
theorem dX7_ownerOf_0 : decode cX7_ownerOf 0 = .ok (.aload_n 0, 1) := by decide +kernel
theorem dX7_ownerOf_1 : decode cX7_ownerOf 1 = .ok (.getfield 19, 3) := by decide +kernel
theorem dX7_ownerOf_4 : decode cX7_ownerOf 4 = .ok (.bipush 35, 2) := by decide +kernel
theorem dX7_ownerOf_6 : decode cX7_ownerOf 6 = .ok (.iload_n 1, 1) := by decide +kernel
theorem dX7_ownerOf_7 : decode cX7_ownerOf 7 = .ok (.imul, 1) := by decide +kernel
theorem dX7_ownerOf_8 : decode cX7_ownerOf 8 = .ok (.iload_n 2, 1) := by decide +kernel
theorem dX7_ownerOf_9 : decode cX7_ownerOf 9 = .ok (.iadd, 1) := by decide +kernel
theorem dX7_ownerOf_10 : decode cX7_ownerOf 10 = .ok (.iaload, 1) := by decide +kernel
theorem dX7_ownerOf_11 : decode cX7_ownerOf 11 = .ok (.istore_n 3, 1) := by decide +kernel
theorem dX7_ownerOf_12 : decode cX7_ownerOf 12 = .ok (.iload_n 3, 1) := by decide +kernel
theorem dX7_ownerOf_13 : decode cX7_ownerOf 13 = .ok (.bipush 7, 2) := by decide +kernel
theorem dX7_ownerOf_15 : decode cX7_ownerOf 15 = .ok (.if_icmp .ne 14, 3) := by decide +kernel
theorem dX7_ownerOf_18 : decode cX7_ownerOf 18 = .ok (.aload_n 0, 1) := by decide +kernel
theorem dX7_ownerOf_19 : decode cX7_ownerOf 19 = .ok (.getfield 13, 3) := by decide +kernel
theorem dX7_ownerOf_22 : decode cX7_ownerOf 22 = .ok (.iload_n 2, 1) := by decide +kernel
theorem dX7_ownerOf_23 : decode cX7_ownerOf 23 = .ok (.iconst 5, 1) := by decide +kernel
theorem dX7_ownerOf_24 : decode cX7_ownerOf 24 = .ok (.idiv, 1) := by decide +kernel
theorem dX7_ownerOf_25 : decode cX7_ownerOf 25 = .ok (.iaload, 1) := by decide +kernel
theorem dX7_ownerOf_26 : decode cX7_ownerOf 26 = .ok (.goto 28, 3) := by decide +kernel
theorem dX7_ownerOf_29 : decode cX7_ownerOf 29 = .ok (.iload_n 3, 1) := by decide +kernel
theorem dX7_ownerOf_30 : decode cX7_ownerOf 30 = .ok (.bipush 8, 2) := by decide +kernel
theorem dX7_ownerOf_32 : decode cX7_ownerOf 32 = .ok (.if_icmp .ne 8, 3) := by decide +kernel
theorem dX7_ownerOf_35 : decode cX7_ownerOf 35 = .ok (.bipush (-9), 2) := by decide +kernel
theorem dX7_ownerOf_37 : decode cX7_ownerOf 37 = .ok (.goto 17, 3) := by decide +kernel
theorem dX7_ownerOf_40 : decode cX7_ownerOf 40 = .ok (.aload_n 0, 1) := by decide +kernel
theorem dX7_ownerOf_41 : decode cX7_ownerOf 41 = .ok (.getfield 19, 3) := by decide +kernel
theorem dX7_ownerOf_44 : decode cX7_ownerOf 44 = .ok (.bipush 35, 2) := by decide +kernel
theorem dX7_ownerOf_46 : decode cX7_ownerOf 46 = .ok (.iload_n 1, 1) := by decide +kernel
theorem dX7_ownerOf_47 : decode cX7_ownerOf 47 = .ok (.imul, 1) := by decide +kernel
theorem dX7_ownerOf_48 : decode cX7_ownerOf 48 = .ok (.bipush 20, 2) := by decide +kernel
theorem dX7_ownerOf_50 : decode cX7_ownerOf 50 = .ok (.iadd, 1) := by decide +kernel
theorem dX7_ownerOf_51 : decode cX7_ownerOf 51 = .ok (.iload_n 3, 1) := by decide +kernel
theorem dX7_ownerOf_52 : decode cX7_ownerOf 52 = .ok (.iadd, 1) := by decide +kernel
theorem dX7_ownerOf_53 : decode cX7_ownerOf 53 = .ok (.iaload, 1) := by decide +kernel
theorem dX7_ownerOf_54 : decode cX7_ownerOf 54 = .ok (.ireturn, 1) := by decide +kernel
theorem dX7_isMonks_0 : decode cX7_isMonks 0 = .ok (.aload_n 0, 1) := by decide +kernel
theorem dX7_isMonks_1 : decode cX7_isMonks 1 = .ok (.getfield 13, 3) := by decide +kernel
theorem dX7_isMonks_4 : decode cX7_isMonks 4 = .ok (.iload_n 1, 1) := by decide +kernel
theorem dX7_isMonks_5 : decode cX7_isMonks 5 = .ok (.iconst 5, 1) := by decide +kernel
theorem dX7_isMonks_6 : decode cX7_isMonks 6 = .ok (.idiv, 1) := by decide +kernel
theorem dX7_isMonks_7 : decode cX7_isMonks 7 = .ok (.iaload, 1) := by decide +kernel
theorem dX7_isMonks_8 : decode cX7_isMonks 8 = .ok (.istore_n 2, 1) := by decide +kernel
theorem dX7_isMonks_9 : decode cX7_isMonks 9 = .ok (.iload_n 2, 1) := by decide +kernel
theorem dX7_isMonks_10 : decode cX7_isMonks 10 = .ok (.bipush (-9), 2) := by decide +kernel
theorem dX7_isMonks_12 : decode cX7_isMonks 12 = .ok (.if_icmp .eq 17, 3) := by decide +kernel
theorem dX7_isMonks_15 : decode cX7_isMonks 15 = .ok (.aload_n 0, 1) := by decide +kernel
theorem dX7_isMonks_16 : decode cX7_isMonks 16 = .ok (.getfield 7, 3) := by decide +kernel
theorem dX7_isMonks_19 : decode cX7_isMonks 19 = .ok (.iload_n 2, 1) := by decide +kernel
theorem dX7_isMonks_20 : decode cX7_isMonks 20 = .ok (.iaload, 1) := by decide +kernel
theorem dX7_isMonks_21 : decode cX7_isMonks 21 = .ok (.iconst 1, 1) := by decide +kernel
theorem dX7_isMonks_22 : decode cX7_isMonks 22 = .ok (.if_icmp .ne 7, 3) := by decide +kernel
theorem dX7_isMonks_25 : decode cX7_isMonks 25 = .ok (.iconst 1, 1) := by decide +kernel
theorem dX7_isMonks_26 : decode cX7_isMonks 26 = .ok (.goto 4, 3) := by decide +kernel
theorem dX7_isMonks_29 : decode cX7_isMonks 29 = .ok (.iconst 0, 1) := by decide +kernel
theorem dX7_isMonks_30 : decode cX7_isMonks 30 = .ok (.ireturn, 1) := by decide +kernel
theorem dX7_pay_0 : decode cX7_pay 0 = .ok (.aload_n 0, 1) := by decide +kernel
theorem dX7_pay_1 : decode cX7_pay 1 = .ok (.getfield 19, 3) := by decide +kernel
theorem dX7_pay_4 : decode cX7_pay 4 = .ok (.bipush 35, 2) := by decide +kernel
theorem dX7_pay_6 : decode cX7_pay 6 = .ok (.iload_n 1, 1) := by decide +kernel
theorem dX7_pay_7 : decode cX7_pay 7 = .ok (.imul, 1) := by decide +kernel
theorem dX7_pay_8 : decode cX7_pay 8 = .ok (.bipush 30, 2) := by decide +kernel
theorem dX7_pay_10 : decode cX7_pay 10 = .ok (.iadd, 1) := by decide +kernel
theorem dX7_pay_11 : decode cX7_pay 11 = .ok (.iload_n 2, 1) := by decide +kernel
theorem dX7_pay_12 : decode cX7_pay 12 = .ok (.iadd, 1) := by decide +kernel
theorem dX7_pay_13 : decode cX7_pay 13 = .ok (.dup2, 1) := by decide +kernel
theorem dX7_pay_14 : decode cX7_pay 14 = .ok (.iaload, 1) := by decide +kernel
theorem dX7_pay_15 : decode cX7_pay 15 = .ok (.iload 4, 2) := by decide +kernel
theorem dX7_pay_17 : decode cX7_pay 17 = .ok (.isub, 1) := by decide +kernel
theorem dX7_pay_18 : decode cX7_pay 18 = .ok (.iastore, 1) := by decide +kernel
theorem dX7_pay_19 : decode cX7_pay 19 = .ok (.iload_n 3, 1) := by decide +kernel
theorem dX7_pay_20 : decode cX7_pay 20 = .ok (.bipush (-9), 2) := by decide +kernel
theorem dX7_pay_22 : decode cX7_pay 22 = .ok (.if_icmp .eq 22, 3) := by decide +kernel
theorem dX7_pay_25 : decode cX7_pay 25 = .ok (.aload_n 0, 1) := by decide +kernel
theorem dX7_pay_26 : decode cX7_pay 26 = .ok (.getfield 19, 3) := by decide +kernel
theorem dX7_pay_29 : decode cX7_pay 29 = .ok (.bipush 35, 2) := by decide +kernel
theorem dX7_pay_31 : decode cX7_pay 31 = .ok (.iload_n 1, 1) := by decide +kernel
theorem dX7_pay_32 : decode cX7_pay 32 = .ok (.imul, 1) := by decide +kernel
theorem dX7_pay_33 : decode cX7_pay 33 = .ok (.bipush 30, 2) := by decide +kernel
theorem dX7_pay_35 : decode cX7_pay 35 = .ok (.iadd, 1) := by decide +kernel
theorem dX7_pay_36 : decode cX7_pay 36 = .ok (.iload_n 3, 1) := by decide +kernel
theorem dX7_pay_37 : decode cX7_pay 37 = .ok (.iadd, 1) := by decide +kernel
theorem dX7_pay_38 : decode cX7_pay 38 = .ok (.dup2, 1) := by decide +kernel
theorem dX7_pay_39 : decode cX7_pay 39 = .ok (.iaload, 1) := by decide +kernel
theorem dX7_pay_40 : decode cX7_pay 40 = .ok (.iload 4, 2) := by decide +kernel
theorem dX7_pay_42 : decode cX7_pay 42 = .ok (.iadd, 1) := by decide +kernel
theorem dX7_pay_43 : decode cX7_pay 43 = .ok (.iastore, 1) := by decide +kernel
theorem dX7_pay_44 : decode cX7_pay 44 = .ok (.return_, 1) := by decide +kernel
def LB_X7_dairy_110 (G110 : (Int32 × CS) → Prop)  (x1 : Int32) (s0 : CS) (Q : Int32 → CS → Prop) : Prop := (((s0.1 1) ≤ x1 → ∀ s0_2 : CS, s0_2 = sI s0 17 (0 : Int32) → vp_in (0 : Int32) 2 ∧ ∀ s0_4 : CS, s0_4 = sA s0_2 26 (0 : Int32).toNatClampNeg (vp_nar .boolean (0 : Int32)) → vp_in (1 : Int32) 2 ∧ ∀ s0_6 : CS, s0_6 = sA s0_4 26 (1 : Int32).toNatClampNeg (vp_nar .boolean (0 : Int32)) → Q (((10 : Int32) * (s0_6.1 0)) + (s0_6.1 1)) s0_6) ∧ (¬ (s0.1 1) ≤ x1 → vp_in ((3 : Int32) * x1) 15 ∧ vp_in ((s0.2.1 8) ((3 : Int32) * x1).toNatClampNeg) 70 ∧ ∀ s0_9 : CS, s0_9 = sA s0 5 ((s0.2.1 8) ((3 : Int32) * x1).toNatClampNeg).toNatClampNeg x1 → vp_in (((3 : Int32) * x1) + (1 : Int32)) 15 ∧ vp_in ((20 : Int32) + x1) 70 ∧ ∀ s0_12 : CS, s0_12 = sA s0_9 5 ((20 : Int32) + x1).toNatClampNeg ((s0_9.2.1 8) (((3 : Int32) * x1) + (1 : Int32)).toNatClampNeg) → vp_in (((3 : Int32) * x1) + (2 : Int32)) 15 ∧ vp_in x1 5 ∧ ∀ s0_15 : CS, s0_15 = sA s0_12 4 x1.toNatClampNeg ((s0_12.2.1 8) (((3 : Int32) * x1) + (2 : Int32)).toNatClampNeg) → ∀ x1_16 : Int32, x1_16 = x1 + (1 : Int32) → G110 (x1_16, s0_15)))
def B_X7_dairy_110  (x1 : Int32) (s0 : CS) (Q : Int32 → CS → Prop) : Prop := LOOP (fun (G110 : (Int32 × CS) → Prop) z => LB_X7_dairy_110 G110  z.1 z.2 Q) (x1, s0)
def LB_X7_dairy_73 (G73 : (Int32 × CS) → Prop)  (x1 : Int32) (s0 : CS) (Q : Int32 → CS → Prop) : Prop := (((4 : Int32) ≤ x1 → B_X7_dairy_110  (0 : Int32) s0 Q) ∧ (¬ (4 : Int32) ≤ x1 → vp_in x1 4 ∧ vp_in x1 4 ∧ ∀ s0_20 : CS, s0_20 = sA s0 2 x1.toNatClampNeg ((s0.2.1 6) x1.toNatClampNeg) → vp_in x1 4 ∧ vp_in x1 4 ∧ ∀ s0_23 : CS, s0_23 = sA s0_20 3 x1.toNatClampNeg ((s0_20.2.1 7) x1.toNatClampNeg) → ∀ x1_24 : Int32, x1_24 = x1 + (1 : Int32) → G73 (x1_24, s0_23)))
def B_X7_dairy_73  (x1 : Int32) (s0 : CS) (Q : Int32 → CS → Prop) : Prop := LOOP (fun (G73 : (Int32 × CS) → Prop) z => LB_X7_dairy_73 G73  z.1 z.2 Q) (x1, s0)
def B_X7_dairy_64 (G30 : (Int32 × CS) → Prop)  (x1 : Int32) (t0 : Int32) (t1 : Int32) (s0 : CS) (Q : Int32 → CS → Prop) : Prop := vp_in t1 70 ∧ ∀ s0_26 : CS, s0_26 = sA s0 5 t1.toNatClampNeg t0 → ∀ x1_27 : Int32, x1_27 = x1 + (1 : Int32) → G30 (x1_27, s0_26)
def LB_X7_dairy_30 (G30 : (Int32 × CS) → Prop)  (x1 : Int32) (s0 : CS) (Q : Int32 → CS → Prop) : Prop := (((35 : Int32) ≤ x1 → B_X7_dairy_73  (0 : Int32) s0 Q) ∧ (¬ (35 : Int32) ≤ x1 → (((20 : Int32) ≤ x1 → (((30 : Int32) ≤ x1 → B_X7_dairy_64 G30  x1 (0 : Int32) x1 s0 Q) ∧ (¬ (30 : Int32) ≤ x1 → B_X7_dairy_64 G30  x1 (-9 : Int32) x1 s0 Q))) ∧ (¬ (20 : Int32) ≤ x1 → B_X7_dairy_64 G30  x1 (7 : Int32) x1 s0 Q))))
def B_X7_dairy_30  (x1 : Int32) (s0 : CS) (Q : Int32 → CS → Prop) : Prop := LOOP (fun (G30 : (Int32 × CS) → Prop) z => LB_X7_dairy_30 G30  z.1 z.2 Q) (x1, s0)
def wp_X7_dairy (s0 : CS) (Q : Int32 → CS → Prop) : Prop := wp_X7_readText s0 (fun r_32 s0_31 => ((r_32 = (-9 : Int32) → ∀ s0_34 : CS, s0_34 = sI s0_31 0 (s0_31.1 9) → ∀ s0_35 : CS, s0_35 = sI s0_34 1 (s0_34.1 11) → B_X7_dairy_30  (0 : Int32) s0_35 Q) ∧ (¬ r_32 = (-9 : Int32) → Q (-3 : Int32) s0_31)))
set_option maxHeartbeats 4000000 in
set_option maxRecDepth 100000 in
theorem c_X7_dairy (l : Launch) (D : va_G) (cI cZ cW : ClassId) (q0 : Nat → Nat) (sz : Nat) (s0 : CS) (Q : Int32 → CS → Prop) (hf : wp_X7_dairy s0 Q) : Met l yX7_dairy (wsA yX7_dairy cX7_dairy 2 (some .int)) ({ frames := 4, cells := 0, slots := 0, locals := 94 }) (PW D cI cZ cW [.ref (q0 0)] (wM cI cZ q0 s0) sz) (va_Qi (fun (r : Int32) (u : CS) => Q r u) (fun u t => va_P D classes (wM cI cZ q0 u) t.heap) (va_A (wM cI cZ q0 s0) sz)) 0 0 (va_A (wM cI cZ q0 s0) sz) := by
  refine Met.ofW (cc := cX7_dairy) (maxL := 2) (ret := (some .int)) (by decide) rfl ?_
  intro p e s m args below meth c s₁ B hml hv
  obtain ⟨rfl, hsz, hP, hK, hD0⟩ := hv
  have hx := B.exec
  have hb := B.bytes
  have hr := B.returns
  have hts := atoms_spec (ws := (wsA yX7_dairy cX7_dairy 2 (some .int))) B.pre
  have ht : ∀ w ∈ lw_g, w.before _ s = true := fun w h => hts w (List.mem_cons_of_mem _ h)
  have hown : s.vm.findClass RX7 = some m.cls := findClass_of_methodNamed B.named
  have hlocks := B.notSynchronized
  subst hsz
  have hD := hD0.self (sz := s.heap.size)
  generalize hAe : va_A (wM cI cZ q0 s0) s.heap.size = A at hD ⊢
  have hA : ∀ q : Nat, s.heap.size ≤ q → A q := fun q h => by rw [← hAe]; exact Or.inr h
  have hS : va_S A s.heap s.heap [] := va_S.rf
  have hDk : ∀ w : CS, va_D A (wM cI cZ q0 w) := fun w => D_M hD
  have hl := lv_entry ([.ref (q0 0)]) (n := 2) (Nat.le_of_ble_eq_true rfl)
  rw [lg_entry_eq]
  generalize (lg_sl ([.ref (q0 0)]) ++ List.replicate (2 - (lg_sl ([.ref (q0 0)])).length) Slot.unset).toArray = ls at hl ⊢
  have hl : lv_has ls 2 [(0, .ref (q0 0))] := hl
  unfold wp_X7_dairy at hf
  have k_110 : ∀ (x1 : Int32) (s0 : CS) (H : Heap) (locs : List Loc) (ls : Array Slot), B_X7_dairy_110  x1 s0 Q → va_P D classes (wM cI cZ q0 s0) H → va_D A (wM cI cZ q0 s0) → va_S A s.heap H locs → lv_has ls 2 [(0, .ref (q0 0)), (1, .int x1)] → W p l e (headSpec (wsA yX7_dairy cX7_dairy 2 (some .int)) ({ frames := 4, cells := 0, slots := 0, locals := 94 })).room s m (#[.ref (q0 0)] : Array Value) below meth c H locs 0 0 (MQ below (va_Qi (fun (r : Int32) (u : CS) => Q r u) (fun u t => va_P D classes (wM cI cZ q0 u) t.heap) A) (#[.ref (q0 0)] : Array Value) s 0 0 A) (F0 m 110 ls []) := by
    intro x1 s0 H locs ls hf hP hD hS hl
    unfold B_X7_dairy_110 at hf
    obtain ⟨I_110, ⟨n0_110, hI0_110⟩, hst_110⟩ := hf
    have main_110 : ∀ (n : Nat) (x1 : Int32) (s0 : CS) (H : Heap) (locs : List Loc) (ls : Array Slot), I_110 n (x1, s0) → va_P D classes (wM cI cZ q0 s0) H → va_D A (wM cI cZ q0 s0) → va_S A s.heap H locs → lv_has ls 2 [(0, .ref (q0 0)), (1, .int x1)] → W p l e (headSpec (wsA yX7_dairy cX7_dairy 2 (some .int)) ({ frames := 4, cells := 0, slots := 0, locals := 94 })).room s m (#[.ref (q0 0)] : Array Value) below meth c H locs 0 0 (MQ below (va_Qi (fun (r : Int32) (u : CS) => Q r u) (fun u t => va_P D classes (wM cI cZ q0 u) t.heap) A) (#[.ref (q0 0)] : Array Value) s 0 0 A) (F0 m 110 ls []) := by
      intro n
      induction n using Nat.strongRecOn with
      | _ n_110 ih_110 =>
      intro x1 s0 H locs ls hI hP hD hS hl
      have hf : LB_X7_dairy_110 (fun z => ∃ k, k < n_110 ∧ I_110 k z)  x1 s0 Q := hst_110 n_110 (x1, s0) hI
      have hG_110 : ∀ (x1 : Int32) (s0 : CS) (H : Heap) (locs : List Loc) (ls : Array Slot), (∃ k, k < n_110 ∧ I_110 k (x1, s0)) → va_P D classes (wM cI cZ q0 s0) H → va_D A (wM cI cZ q0 s0) → va_S A s.heap H locs → lv_has ls 2 [(0, .ref (q0 0)), (1, .int x1)] → W p l e (headSpec (wsA yX7_dairy cX7_dairy 2 (some .int)) ({ frames := 4, cells := 0, slots := 0, locals := 94 })).room s m (#[.ref (q0 0)] : Array Value) below meth c H locs 0 0 (MQ below (va_Qi (fun (r : Int32) (u : CS) => Q r u) (fun u t => va_P D classes (wM cI cZ q0 u) t.heap) A) (#[.ref (q0 0)] : Array Value) s 0 0 A) (F0 m 110 ls []) := by
        rintro x1 s0 H locs ls ⟨k, hk, hI⟩ hP hD hS hl
        exact ih_110 k hk x1 s0 H locs ls hI hP hD hS hl
      unfold LB_X7_dairy_110 at hf
      refine lv_iload_n hx hb dX7_dairy_110 rfl (lv_at hl 1 rfl) ?_
      refine lv_aload_n hx hb dX7_dairy_111 rfl (lv_at hl 0 rfl) ?_
      refine va_get (D := D) (ci := 5) (v := .int (s0.1 1)) (C := RX7) (T := TX7) (N := 28) hx hb ht inX7 hown hK hP 0 eM_0 rfl 1 (by decide) (ht _ tw_656) (fun _ h9 => h9) rfl dX7_dairy_112 ?_
      refine lv_icmp_ge (tgt := 173) hx hb dX7_dairy_115 (by decide) (fun c_1 => ?_) (fun c_1 => ?_)
      · have hf := hf.1 c_1
        refine lv_aload_n hx hb dX7_dairy_173 rfl (lv_at hl 0 rfl) ?_
        refine lv_iconst (v := (0 : Int32)) hx hb dX7_dairy_174 (by decide) ?_
        refine va_put (D := D) (ci := 5) (v := .int (0 : Int32)) (ty := .int) (C := RX7) (T := TX7) (N := 28) hx hb ht inX7 tyX7 tyX7_ok nmX7 hown hK hP hD hS 0 eM_0 rfl 17 (by decide) (ht _ tw_672) (fun _ h9 => h9) rfl pf_I rfl rfl (Nat.le_of_ble_eq_true rfl) dX7_dairy_175 (fun H locs hP hD hS => ?_)
        obtain ⟨s0_2, es0_2⟩ : ∃ y : CS, y = sI s0 17 (0 : Int32) := ⟨_, rfl⟩
        have hf := hf s0_2 es0_2
        have hD := hDk s0_2
        have hP : va_P D classes (wM cI cZ q0 s0_2) H := by rw [es0_2]; exact PM_I17 hP
        refine lv_aload_n hx hb dX7_dairy_178 rfl (lv_at hl 0 rfl) ?_
        refine va_get (D := D) (ci := 5) (v := .ref (q0 14)) (C := RX7) (T := TX7) (N := 28) hx hb ht inX7 hown hK hP 0 eM_0 rfl 26 (by decide) (ht _ tw_681) (fun _ h9 => h9) rfl dX7_dairy_179 ?_
        refine lv_iconst (v := (0 : Int32)) hx hb dX7_dairy_182 (by decide) ?_
        refine lv_iconst (v := (0 : Int32)) hx hb dX7_dairy_183 (by decide) ?_
        obtain ⟨hi_3, hf⟩ := hf
        refine va_zast hx hb hK hP hD hS 14 1 eM_14 rfl hi_3 dX7_dairy_184 (fun H locs hP hD hS => ?_)
        obtain ⟨s0_4, es0_4⟩ : ∃ y : CS, y = sA s0_2 26 (0 : Int32).toNatClampNeg (vp_nar .boolean (0 : Int32)) := ⟨_, rfl⟩
        have hf := hf s0_4 es0_4
        have hD := hDk s0_4
        have hP : va_P D classes (wM cI cZ q0 s0_4) H := by rw [es0_4]; exact PM_F26 hP
        refine lv_aload_n hx hb dX7_dairy_185 rfl (lv_at hl 0 rfl) ?_
        refine va_get (D := D) (ci := 5) (v := .ref (q0 14)) (C := RX7) (T := TX7) (N := 28) hx hb ht inX7 hown hK hP 0 eM_0 rfl 26 (by decide) (ht _ tw_681) (fun _ h9 => h9) rfl dX7_dairy_186 ?_
        refine lv_iconst (v := (1 : Int32)) hx hb dX7_dairy_189 (by decide) ?_
        refine lv_iconst (v := (0 : Int32)) hx hb dX7_dairy_190 (by decide) ?_
        obtain ⟨hi_5, hf⟩ := hf
        refine va_zast hx hb hK hP hD hS 14 1 eM_14 rfl hi_5 dX7_dairy_191 (fun H locs hP hD hS => ?_)
        obtain ⟨s0_6, es0_6⟩ : ∃ y : CS, y = sA s0_4 26 (1 : Int32).toNatClampNeg (vp_nar .boolean (0 : Int32)) := ⟨_, rfl⟩
        have hf := hf s0_6 es0_6
        have hD := hDk s0_6
        have hP : va_P D classes (wM cI cZ q0 s0_6) H := by rw [es0_6]; exact PM_F26 hP
        refine lv_bipush (v := (10 : Int32)) hx hb dX7_dairy_192 (by decide) ?_
        refine lv_aload_n hx hb dX7_dairy_194 rfl (lv_at hl 0 rfl) ?_
        refine va_get (D := D) (ci := 5) (v := .int (s0_6.1 0)) (C := RX7) (T := TX7) (N := 28) hx hb ht inX7 hown hK hP 0 eM_0 rfl 0 (by decide) (ht _ tw_655) (fun _ h9 => h9) rfl dX7_dairy_195 ?_
        refine lv_imul hx hb dX7_dairy_198 ?_
        refine lv_aload_n hx hb dX7_dairy_199 rfl (lv_at hl 0 rfl) ?_
        refine va_get (D := D) (ci := 5) (v := .int (s0_6.1 1)) (C := RX7) (T := TX7) (N := 28) hx hb ht inX7 hown hK hP 0 eM_0 rfl 1 (by decide) (ht _ tw_656) (fun _ h9 => h9) rfl dX7_dairy_200 ?_
        refine lv_iadd hx hb dX7_dairy_203 ?_
        exact W.iret (v := (((10 : Int32) * (s0_6.1 0)) + (s0_6.1 1))) hx hb hr (fun t ht hW => ⟨⟨(((10 : Int32) * (s0_6.1 0)) + (s0_6.1 1)), s0_6, rfl, hf, P_heap ht hP⟩, hS.F ht⟩) hS.2.2 dX7_dairy_204
      · have hf := hf.2 c_1
        refine lv_aload_n hx hb dX7_dairy_118 rfl (lv_at hl 0 rfl) ?_
        refine va_get (D := D) (ci := 5) (v := .ref (q0 4)) (C := RX7) (T := TX7) (N := 28) hx hb ht inX7 hown hK hP 0 eM_0 rfl 5 (by decide) (ht _ tw_660) (fun _ h9 => h9) rfl dX7_dairy_119 ?_
        refine lv_aload_n hx hb dX7_dairy_122 rfl (lv_at hl 0 rfl) ?_
        refine va_get (D := D) (ci := 5) (v := .ref (q0 7)) (C := RX7) (T := TX7) (N := 28) hx hb ht inX7 hown hK hP 0 eM_0 rfl 8 (by decide) (ht _ tw_663) (fun _ h9 => h9) rfl dX7_dairy_123 ?_
        refine lv_iconst (v := (3 : Int32)) hx hb dX7_dairy_126 (by decide) ?_
        refine lv_iload_n hx hb dX7_dairy_127 rfl (lv_at hl 1 rfl) ?_
        refine lv_imul hx hb dX7_dairy_128 ?_
        obtain ⟨hi_7, hf⟩ := hf
        refine va_iald hx hb hK hP 7 0 eM_7 rfl hi_7 dX7_dairy_129 ?_
        refine lv_iload_n hx hb dX7_dairy_130 rfl (lv_at hl 1 rfl) ?_
        obtain ⟨hi_8, hf⟩ := hf
        refine va_iast hx hb hK hP hD hS 4 0 eM_4 rfl hi_8 dX7_dairy_131 (fun H locs hP hD hS => ?_)
        obtain ⟨s0_9, es0_9⟩ : ∃ y : CS, y = sA s0 5 ((s0.2.1 8) ((3 : Int32) * x1).toNatClampNeg).toNatClampNeg x1 := ⟨_, rfl⟩
        have hf := hf s0_9 es0_9
        have hD := hDk s0_9
        have hP : va_P D classes (wM cI cZ q0 s0_9) H := by rw [es0_9]; exact PM_F5 hP
        refine lv_aload_n hx hb dX7_dairy_132 rfl (lv_at hl 0 rfl) ?_
        refine va_get (D := D) (ci := 5) (v := .ref (q0 4)) (C := RX7) (T := TX7) (N := 28) hx hb ht inX7 hown hK hP 0 eM_0 rfl 5 (by decide) (ht _ tw_660) (fun _ h9 => h9) rfl dX7_dairy_133 ?_
        refine lv_bipush (v := (20 : Int32)) hx hb dX7_dairy_136 (by decide) ?_
        refine lv_iload_n hx hb dX7_dairy_138 rfl (lv_at hl 1 rfl) ?_
        refine lv_iadd hx hb dX7_dairy_139 ?_
        refine lv_aload_n hx hb dX7_dairy_140 rfl (lv_at hl 0 rfl) ?_
        refine va_get (D := D) (ci := 5) (v := .ref (q0 7)) (C := RX7) (T := TX7) (N := 28) hx hb ht inX7 hown hK hP 0 eM_0 rfl 8 (by decide) (ht _ tw_663) (fun _ h9 => h9) rfl dX7_dairy_141 ?_
        refine lv_iconst (v := (3 : Int32)) hx hb dX7_dairy_144 (by decide) ?_
        refine lv_iload_n hx hb dX7_dairy_145 rfl (lv_at hl 1 rfl) ?_
        refine lv_imul hx hb dX7_dairy_146 ?_
        refine lv_iconst (v := (1 : Int32)) hx hb dX7_dairy_147 (by decide) ?_
        refine lv_iadd hx hb dX7_dairy_148 ?_
        obtain ⟨hi_10, hf⟩ := hf
        refine va_iald hx hb hK hP 7 0 eM_7 rfl hi_10 dX7_dairy_149 ?_
        obtain ⟨hi_11, hf⟩ := hf
        refine va_iast hx hb hK hP hD hS 4 0 eM_4 rfl hi_11 dX7_dairy_150 (fun H locs hP hD hS => ?_)
        obtain ⟨s0_12, es0_12⟩ : ∃ y : CS, y = sA s0_9 5 ((20 : Int32) + x1).toNatClampNeg ((s0_9.2.1 8) (((3 : Int32) * x1) + (1 : Int32)).toNatClampNeg) := ⟨_, rfl⟩
        have hf := hf s0_12 es0_12
        have hD := hDk s0_12
        have hP : va_P D classes (wM cI cZ q0 s0_12) H := by rw [es0_12]; exact PM_F5 hP
        refine lv_aload_n hx hb dX7_dairy_151 rfl (lv_at hl 0 rfl) ?_
        refine va_get (D := D) (ci := 5) (v := .ref (q0 3)) (C := RX7) (T := TX7) (N := 28) hx hb ht inX7 hown hK hP 0 eM_0 rfl 4 (by decide) (ht _ tw_659) (fun _ h9 => h9) rfl dX7_dairy_152 ?_
        refine lv_iload_n hx hb dX7_dairy_155 rfl (lv_at hl 1 rfl) ?_
        refine lv_aload_n hx hb dX7_dairy_156 rfl (lv_at hl 0 rfl) ?_
        refine va_get (D := D) (ci := 5) (v := .ref (q0 7)) (C := RX7) (T := TX7) (N := 28) hx hb ht inX7 hown hK hP 0 eM_0 rfl 8 (by decide) (ht _ tw_663) (fun _ h9 => h9) rfl dX7_dairy_157 ?_
        refine lv_iconst (v := (3 : Int32)) hx hb dX7_dairy_160 (by decide) ?_
        refine lv_iload_n hx hb dX7_dairy_161 rfl (lv_at hl 1 rfl) ?_
        refine lv_imul hx hb dX7_dairy_162 ?_
        refine lv_iconst (v := (2 : Int32)) hx hb dX7_dairy_163 (by decide) ?_
        refine lv_iadd hx hb dX7_dairy_164 ?_
        obtain ⟨hi_13, hf⟩ := hf
        refine va_iald hx hb hK hP 7 0 eM_7 rfl hi_13 dX7_dairy_165 ?_
        obtain ⟨hi_14, hf⟩ := hf
        refine va_iast hx hb hK hP hD hS 3 0 eM_3 rfl hi_14 dX7_dairy_166 (fun H locs hP hD hS => ?_)
        obtain ⟨s0_15, es0_15⟩ : ∃ y : CS, y = sA s0_12 4 x1.toNatClampNeg ((s0_12.2.1 8) (((3 : Int32) * x1) + (2 : Int32)).toNatClampNeg) := ⟨_, rfl⟩
        have hf := hf s0_15 es0_15
        have hD := hDk s0_15
        have hP : va_P D classes (wM cI cZ q0 s0_15) H := by rw [es0_15]; exact PM_F4 hP
        obtain ⟨x1_16, ex1_16⟩ : ∃ y : Int32, y = x1 + (1 : Int32) := ⟨_, rfl⟩
        have hf := hf x1_16 ex1_16
        refine lv_iinc (v := x1_16) (lv' := [(1, .int x1_16), (0, .ref (q0 0))]) hx hb dX7_dairy_167 hl (k := 1) rfl (by rw [ex1_16]; rfl) (by decide) rfl (fun ls hl => ?_)
        refine lv_goto (tgt := 110) hx hb dX7_dairy_170 (by decide) ?_
        exact hG_110 x1_16 s0_15 H locs ls hf hP hD hS (lv_sub hl [1, 0] rfl)
    exact main_110 n0_110 x1 s0 H locs ls hI0_110 hP hD hS hl
  have k_73 : ∀ (x1 : Int32) (s0 : CS) (H : Heap) (locs : List Loc) (ls : Array Slot), B_X7_dairy_73  x1 s0 Q → va_P D classes (wM cI cZ q0 s0) H → va_D A (wM cI cZ q0 s0) → va_S A s.heap H locs → lv_has ls 2 [(0, .ref (q0 0)), (1, .int x1)] → W p l e (headSpec (wsA yX7_dairy cX7_dairy 2 (some .int)) ({ frames := 4, cells := 0, slots := 0, locals := 94 })).room s m (#[.ref (q0 0)] : Array Value) below meth c H locs 0 0 (MQ below (va_Qi (fun (r : Int32) (u : CS) => Q r u) (fun u t => va_P D classes (wM cI cZ q0 u) t.heap) A) (#[.ref (q0 0)] : Array Value) s 0 0 A) (F0 m 73 ls []) := by
    intro x1 s0 H locs ls hf hP hD hS hl
    unfold B_X7_dairy_73 at hf
    obtain ⟨I_73, ⟨n0_73, hI0_73⟩, hst_73⟩ := hf
    have main_73 : ∀ (n : Nat) (x1 : Int32) (s0 : CS) (H : Heap) (locs : List Loc) (ls : Array Slot), I_73 n (x1, s0) → va_P D classes (wM cI cZ q0 s0) H → va_D A (wM cI cZ q0 s0) → va_S A s.heap H locs → lv_has ls 2 [(0, .ref (q0 0)), (1, .int x1)] → W p l e (headSpec (wsA yX7_dairy cX7_dairy 2 (some .int)) ({ frames := 4, cells := 0, slots := 0, locals := 94 })).room s m (#[.ref (q0 0)] : Array Value) below meth c H locs 0 0 (MQ below (va_Qi (fun (r : Int32) (u : CS) => Q r u) (fun u t => va_P D classes (wM cI cZ q0 u) t.heap) A) (#[.ref (q0 0)] : Array Value) s 0 0 A) (F0 m 73 ls []) := by
      intro n
      induction n using Nat.strongRecOn with
      | _ n_73 ih_73 =>
      intro x1 s0 H locs ls hI hP hD hS hl
      have hf : LB_X7_dairy_73 (fun z => ∃ k, k < n_73 ∧ I_73 k z)  x1 s0 Q := hst_73 n_73 (x1, s0) hI
      have hG_73 : ∀ (x1 : Int32) (s0 : CS) (H : Heap) (locs : List Loc) (ls : Array Slot), (∃ k, k < n_73 ∧ I_73 k (x1, s0)) → va_P D classes (wM cI cZ q0 s0) H → va_D A (wM cI cZ q0 s0) → va_S A s.heap H locs → lv_has ls 2 [(0, .ref (q0 0)), (1, .int x1)] → W p l e (headSpec (wsA yX7_dairy cX7_dairy 2 (some .int)) ({ frames := 4, cells := 0, slots := 0, locals := 94 })).room s m (#[.ref (q0 0)] : Array Value) below meth c H locs 0 0 (MQ below (va_Qi (fun (r : Int32) (u : CS) => Q r u) (fun u t => va_P D classes (wM cI cZ q0 u) t.heap) A) (#[.ref (q0 0)] : Array Value) s 0 0 A) (F0 m 73 ls []) := by
        rintro x1 s0 H locs ls ⟨k, hk, hI⟩ hP hD hS hl
        exact ih_73 k hk x1 s0 H locs ls hI hP hD hS hl
      unfold LB_X7_dairy_73 at hf
      refine lv_iload_n hx hb dX7_dairy_73 rfl (lv_at hl 1 rfl) ?_
      refine lv_iconst (v := (4 : Int32)) hx hb dX7_dairy_74 (by decide) ?_
      refine lv_icmp_ge (tgt := 108) hx hb dX7_dairy_75 (by decide) (fun c_17 => ?_) (fun c_17 => ?_)
      · have hf := hf.1 c_17
        refine lv_iconst (v := (0 : Int32)) hx hb dX7_dairy_108 (by decide) ?_
        refine lv_istore_n (lv' := [(1, .int (0 : Int32)), (0, .ref (q0 0))]) hx hb dX7_dairy_109 rfl hl (by decide) rfl (fun ls hl => ?_)
        exact k_110 (0 : Int32) s0 H locs ls hf hP hD hS (lv_sub hl [1, 0] rfl)
      · have hf := hf.2 c_17
        refine lv_aload_n hx hb dX7_dairy_78 rfl (lv_at hl 0 rfl) ?_
        refine va_get (D := D) (ci := 5) (v := .ref (q0 1)) (C := RX7) (T := TX7) (N := 28) hx hb ht inX7 hown hK hP 0 eM_0 rfl 2 (by decide) (ht _ tw_657) (fun _ h9 => h9) rfl dX7_dairy_79 ?_
        refine lv_iload_n hx hb dX7_dairy_82 rfl (lv_at hl 1 rfl) ?_
        refine lv_aload_n hx hb dX7_dairy_83 rfl (lv_at hl 0 rfl) ?_
        refine va_get (D := D) (ci := 5) (v := .ref (q0 5)) (C := RX7) (T := TX7) (N := 28) hx hb ht inX7 hown hK hP 0 eM_0 rfl 6 (by decide) (ht _ tw_661) (fun _ h9 => h9) rfl dX7_dairy_84 ?_
        refine lv_iload_n hx hb dX7_dairy_87 rfl (lv_at hl 1 rfl) ?_
        obtain ⟨hi_18, hf⟩ := hf
        refine va_iald hx hb hK hP 5 0 eM_5 rfl hi_18 dX7_dairy_88 ?_
        obtain ⟨hi_19, hf⟩ := hf
        refine va_iast hx hb hK hP hD hS 1 0 eM_1 rfl hi_19 dX7_dairy_89 (fun H locs hP hD hS => ?_)
        obtain ⟨s0_20, es0_20⟩ : ∃ y : CS, y = sA s0 2 x1.toNatClampNeg ((s0.2.1 6) x1.toNatClampNeg) := ⟨_, rfl⟩
        have hf := hf s0_20 es0_20
        have hD := hDk s0_20
        have hP : va_P D classes (wM cI cZ q0 s0_20) H := by rw [es0_20]; exact PM_F2 hP
        refine lv_aload_n hx hb dX7_dairy_90 rfl (lv_at hl 0 rfl) ?_
        refine va_get (D := D) (ci := 5) (v := .ref (q0 2)) (C := RX7) (T := TX7) (N := 28) hx hb ht inX7 hown hK hP 0 eM_0 rfl 3 (by decide) (ht _ tw_658) (fun _ h9 => h9) rfl dX7_dairy_91 ?_
        refine lv_iload_n hx hb dX7_dairy_94 rfl (lv_at hl 1 rfl) ?_
        refine lv_aload_n hx hb dX7_dairy_95 rfl (lv_at hl 0 rfl) ?_
        refine va_get (D := D) (ci := 5) (v := .ref (q0 6)) (C := RX7) (T := TX7) (N := 28) hx hb ht inX7 hown hK hP 0 eM_0 rfl 7 (by decide) (ht _ tw_662) (fun _ h9 => h9) rfl dX7_dairy_96 ?_
        refine lv_iload_n hx hb dX7_dairy_99 rfl (lv_at hl 1 rfl) ?_
        obtain ⟨hi_21, hf⟩ := hf
        refine va_iald hx hb hK hP 6 0 eM_6 rfl hi_21 dX7_dairy_100 ?_
        obtain ⟨hi_22, hf⟩ := hf
        refine va_iast hx hb hK hP hD hS 2 0 eM_2 rfl hi_22 dX7_dairy_101 (fun H locs hP hD hS => ?_)
        obtain ⟨s0_23, es0_23⟩ : ∃ y : CS, y = sA s0_20 3 x1.toNatClampNeg ((s0_20.2.1 7) x1.toNatClampNeg) := ⟨_, rfl⟩
        have hf := hf s0_23 es0_23
        have hD := hDk s0_23
        have hP : va_P D classes (wM cI cZ q0 s0_23) H := by rw [es0_23]; exact PM_F3 hP
        obtain ⟨x1_24, ex1_24⟩ : ∃ y : Int32, y = x1 + (1 : Int32) := ⟨_, rfl⟩
        have hf := hf x1_24 ex1_24
        refine lv_iinc (v := x1_24) (lv' := [(1, .int x1_24), (0, .ref (q0 0))]) hx hb dX7_dairy_102 hl (k := 1) rfl (by rw [ex1_24]; rfl) (by decide) rfl (fun ls hl => ?_)
        refine lv_goto (tgt := 73) hx hb dX7_dairy_105 (by decide) ?_
        exact hG_73 x1_24 s0_23 H locs ls hf hP hD hS (lv_sub hl [1, 0] rfl)
    exact main_73 n0_73 x1 s0 H locs ls hI0_73 hP hD hS hl
  have k_30 : ∀ (x1 : Int32) (s0 : CS) (H : Heap) (locs : List Loc) (ls : Array Slot), B_X7_dairy_30  x1 s0 Q → va_P D classes (wM cI cZ q0 s0) H → va_D A (wM cI cZ q0 s0) → va_S A s.heap H locs → lv_has ls 2 [(0, .ref (q0 0)), (1, .int x1)] → W p l e (headSpec (wsA yX7_dairy cX7_dairy 2 (some .int)) ({ frames := 4, cells := 0, slots := 0, locals := 94 })).room s m (#[.ref (q0 0)] : Array Value) below meth c H locs 0 0 (MQ below (va_Qi (fun (r : Int32) (u : CS) => Q r u) (fun u t => va_P D classes (wM cI cZ q0 u) t.heap) A) (#[.ref (q0 0)] : Array Value) s 0 0 A) (F0 m 30 ls []) := by
    intro x1 s0 H locs ls hf hP hD hS hl
    unfold B_X7_dairy_30 at hf
    obtain ⟨I_30, ⟨n0_30, hI0_30⟩, hst_30⟩ := hf
    have main_30 : ∀ (n : Nat) (x1 : Int32) (s0 : CS) (H : Heap) (locs : List Loc) (ls : Array Slot), I_30 n (x1, s0) → va_P D classes (wM cI cZ q0 s0) H → va_D A (wM cI cZ q0 s0) → va_S A s.heap H locs → lv_has ls 2 [(0, .ref (q0 0)), (1, .int x1)] → W p l e (headSpec (wsA yX7_dairy cX7_dairy 2 (some .int)) ({ frames := 4, cells := 0, slots := 0, locals := 94 })).room s m (#[.ref (q0 0)] : Array Value) below meth c H locs 0 0 (MQ below (va_Qi (fun (r : Int32) (u : CS) => Q r u) (fun u t => va_P D classes (wM cI cZ q0 u) t.heap) A) (#[.ref (q0 0)] : Array Value) s 0 0 A) (F0 m 30 ls []) := by
      intro n
      induction n using Nat.strongRecOn with
      | _ n_30 ih_30 =>
      intro x1 s0 H locs ls hI hP hD hS hl
      have hf : LB_X7_dairy_30 (fun z => ∃ k, k < n_30 ∧ I_30 k z)  x1 s0 Q := hst_30 n_30 (x1, s0) hI
      have hG_30 : ∀ (x1 : Int32) (s0 : CS) (H : Heap) (locs : List Loc) (ls : Array Slot), (∃ k, k < n_30 ∧ I_30 k (x1, s0)) → va_P D classes (wM cI cZ q0 s0) H → va_D A (wM cI cZ q0 s0) → va_S A s.heap H locs → lv_has ls 2 [(0, .ref (q0 0)), (1, .int x1)] → W p l e (headSpec (wsA yX7_dairy cX7_dairy 2 (some .int)) ({ frames := 4, cells := 0, slots := 0, locals := 94 })).room s m (#[.ref (q0 0)] : Array Value) below meth c H locs 0 0 (MQ below (va_Qi (fun (r : Int32) (u : CS) => Q r u) (fun u t => va_P D classes (wM cI cZ q0 u) t.heap) A) (#[.ref (q0 0)] : Array Value) s 0 0 A) (F0 m 30 ls []) := by
        rintro x1 s0 H locs ls ⟨k, hk, hI⟩ hP hD hS hl
        exact ih_30 k hk x1 s0 H locs ls hI hP hD hS hl
      unfold LB_X7_dairy_30 at hf
      have k_64 : ∀ (x1 : Int32) (t0 : Int32) (t1 : Int32) (s0 : CS) (H : Heap) (locs : List Loc) (ls : Array Slot), B_X7_dairy_64 (fun z => ∃ k, k < n_30 ∧ I_30 k z)  x1 t0 t1 s0 Q → va_P D classes (wM cI cZ q0 s0) H → va_D A (wM cI cZ q0 s0) → va_S A s.heap H locs → lv_has ls 2 [(0, .ref (q0 0)), (1, .int x1)] → W p l e (headSpec (wsA yX7_dairy cX7_dairy 2 (some .int)) ({ frames := 4, cells := 0, slots := 0, locals := 94 })).room s m (#[.ref (q0 0)] : Array Value) below meth c H locs 0 0 (MQ below (va_Qi (fun (r : Int32) (u : CS) => Q r u) (fun u t => va_P D classes (wM cI cZ q0 u) t.heap) A) (#[.ref (q0 0)] : Array Value) s 0 0 A) (F0 m 64 ls [.int t0, .int t1, .ref (q0 4)]) := by
        intro x1 t0 t1 s0 H locs ls hf hP hD hS hl
        unfold B_X7_dairy_64 at hf
        obtain ⟨hi_25, hf⟩ := hf
        refine va_iast hx hb hK hP hD hS 4 0 eM_4 rfl hi_25 dX7_dairy_64 (fun H locs hP hD hS => ?_)
        obtain ⟨s0_26, es0_26⟩ : ∃ y : CS, y = sA s0 5 t1.toNatClampNeg t0 := ⟨_, rfl⟩
        have hf := hf s0_26 es0_26
        have hD := hDk s0_26
        have hP : va_P D classes (wM cI cZ q0 s0_26) H := by rw [es0_26]; exact PM_F5 hP
        obtain ⟨x1_27, ex1_27⟩ : ∃ y : Int32, y = x1 + (1 : Int32) := ⟨_, rfl⟩
        have hf := hf x1_27 ex1_27
        refine lv_iinc (v := x1_27) (lv' := [(1, .int x1_27), (0, .ref (q0 0))]) hx hb dX7_dairy_65 hl (k := 1) rfl (by rw [ex1_27]; rfl) (by decide) rfl (fun ls hl => ?_)
        refine lv_goto (tgt := 30) hx hb dX7_dairy_68 (by decide) ?_
        exact hG_30 x1_27 s0_26 H locs ls hf hP hD hS (lv_sub hl [1, 0] rfl)
      refine lv_iload_n hx hb dX7_dairy_30 rfl (lv_at hl 1 rfl) ?_
      refine lv_bipush (v := (35 : Int32)) hx hb dX7_dairy_31 (by decide) ?_
      refine lv_icmp_ge (tgt := 71) hx hb dX7_dairy_33 (by decide) (fun c_28 => ?_) (fun c_28 => ?_)
      · have hf := hf.1 c_28
        refine lv_iconst (v := (0 : Int32)) hx hb dX7_dairy_71 (by decide) ?_
        refine lv_istore_n (lv' := [(1, .int (0 : Int32)), (0, .ref (q0 0))]) hx hb dX7_dairy_72 rfl hl (by decide) rfl (fun ls hl => ?_)
        exact k_73 (0 : Int32) s0 H locs ls hf hP hD hS (lv_sub hl [1, 0] rfl)
      · have hf := hf.2 c_28
        refine lv_aload_n hx hb dX7_dairy_36 rfl (lv_at hl 0 rfl) ?_
        refine va_get (D := D) (ci := 5) (v := .ref (q0 4)) (C := RX7) (T := TX7) (N := 28) hx hb ht inX7 hown hK hP 0 eM_0 rfl 5 (by decide) (ht _ tw_660) (fun _ h9 => h9) rfl dX7_dairy_37 ?_
        refine lv_iload_n hx hb dX7_dairy_40 rfl (lv_at hl 1 rfl) ?_
        refine lv_iload_n hx hb dX7_dairy_41 rfl (lv_at hl 1 rfl) ?_
        refine lv_bipush (v := (20 : Int32)) hx hb dX7_dairy_42 (by decide) ?_
        refine lv_icmp_ge (tgt := 52) hx hb dX7_dairy_44 (by decide) (fun c_29 => ?_) (fun c_29 => ?_)
        · have hf := hf.1 c_29
          refine lv_iload_n hx hb dX7_dairy_52 rfl (lv_at hl 1 rfl) ?_
          refine lv_bipush (v := (30 : Int32)) hx hb dX7_dairy_53 (by decide) ?_
          refine lv_icmp_ge (tgt := 63) hx hb dX7_dairy_55 (by decide) (fun c_30 => ?_) (fun c_30 => ?_)
          · have hf := hf.1 c_30
            refine lv_iconst (v := (0 : Int32)) hx hb dX7_dairy_63 (by decide) ?_
            exact k_64 x1 (0 : Int32) x1 s0 H locs ls hf hP hD hS (lv_sub hl [0, 1] rfl)
          · have hf := hf.2 c_30
            refine lv_bipush (v := (-9 : Int32)) hx hb dX7_dairy_58 (by decide) ?_
            refine lv_goto (tgt := 64) hx hb dX7_dairy_60 (by decide) ?_
            exact k_64 x1 (-9 : Int32) x1 s0 H locs ls hf hP hD hS (lv_sub hl [0, 1] rfl)
        · have hf := hf.2 c_29
          refine lv_bipush (v := (7 : Int32)) hx hb dX7_dairy_47 (by decide) ?_
          refine lv_goto (tgt := 64) hx hb dX7_dairy_49 (by decide) ?_
          exact k_64 x1 (7 : Int32) x1 s0 H locs ls hf hP hD hS (lv_sub hl [0, 1] rfl)
    exact main_30 n0_30 x1 s0 H locs ls hI0_30 hP hD hS hl
  have start : ∀ (H : Heap) (locs : List Loc), va_P D classes (wM cI cZ q0 s0) H → va_D A (wM cI cZ q0 s0) → va_S A s.heap H locs → W p l e (headSpec (wsA yX7_dairy cX7_dairy 2 (some .int)) ({ frames := 4, cells := 0, slots := 0, locals := 94 })).room s m (#[.ref (q0 0)] : Array Value) below meth c H locs 0 0 (MQ below (va_Qi (fun (r : Int32) (u : CS) => Q r u) (fun u t => va_P D classes (wM cI cZ q0 u) t.heap) A) (#[.ref (q0 0)] : Array Value) s 0 0 A) (F0 m 0 ls []) := by
    intro H locs hP hD hS
    refine lv_aload_n hx hb dX7_dairy_0 rfl (lv_at hl 0 rfl) ?_
    have hPc : va_P D classes (wM cI cZ q0 s0) H := hP
    have hDc : va_D A (wM cI cZ q0 s0) := hD
    have hFc := va_free (wc := (wM cI cZ q0 s0)) hD hS hA [0, 1, 2, 3, 4, 5, 6, 7, 8, 9, 10, 11, 12, 13, 14, 15] rfl
    refine va_calli (va_runV (As := []) (rest := []) ⟨hx, hb, hml, hown, hts⟩ (c_X7_readText l D cI cZ cW q0 H.size s0 _ hf) ⟨callB_of 0 hts (gA tw_759) rfl rfl rfl (ht _ tw_7) (ht _ tw_756) hd_X7_readText ⟨Nat.le_of_ble_eq_true rfl, Nat.le_of_ble_eq_true rfl⟩, ht _ tw_758, ht _ twp_18⟩ ⟨PW_blind, va_recv hK hP (ci := 5) (q0 := 0) rfl eM_0, fun U hU hW => PW_mk hPc hDc hK hU hW⟩ rfl rfl hl.1 rfl (lv_room (Nat.le_of_ble_eq_true rfl)) dX7_dairy_1 ⟨Nat.zero_le _, Nat.zero_le _⟩) hS (fun q _ h => hFc q h) hFc (fun r_32 u t H1 locs ht1 hvm hf hB hz1 hk1 hS => ?_)
    obtain ⟨s0_31, rfl⟩ : ∃ z, z = u := ⟨_, rfl⟩
    rw [ht1] at hB
    have hP := hB
    have hD := hDk s0_31
    generalize H1 = H at hP hS ⊢
    have hP : va_P D classes (wM cI cZ q0 s0_31) H := hP
    have hD : va_D A (wM cI cZ q0 s0_31) := hD
    refine lv_bipush (v := (-9 : Int32)) hx hb dX7_dairy_4 (by decide) ?_
    refine lv_icmp_eq (tgt := 12) hx hb dX7_dairy_6 (by decide) (fun c_33 => ?_) (fun c_33 => ?_)
    · have hf := hf.1 c_33
      refine lv_aload_n hx hb dX7_dairy_12 rfl (lv_at hl 0 rfl) ?_
      refine lv_aload_n hx hb dX7_dairy_13 rfl (lv_at hl 0 rfl) ?_
      refine va_get (D := D) (ci := 5) (v := .int (s0_31.1 9)) (C := RX7) (T := TX7) (N := 28) hx hb ht inX7 hown hK hP 0 eM_0 rfl 9 (by decide) (ht _ tw_664) (fun _ h9 => h9) rfl dX7_dairy_14 ?_
      refine va_put (D := D) (ci := 5) (v := .int (s0_31.1 9)) (ty := .int) (C := RX7) (T := TX7) (N := 28) hx hb ht inX7 tyX7 tyX7_ok nmX7 hown hK hP hD hS 0 eM_0 rfl 0 (by decide) (ht _ tw_655) (fun _ h9 => h9) rfl pf_I rfl rfl (Nat.le_of_ble_eq_true rfl) dX7_dairy_17 (fun H locs hP hD hS => ?_)
      obtain ⟨s0_34, es0_34⟩ : ∃ y : CS, y = sI s0_31 0 (s0_31.1 9) := ⟨_, rfl⟩
      have hf := hf s0_34 es0_34
      have hD := hDk s0_34
      have hP : va_P D classes (wM cI cZ q0 s0_34) H := by rw [es0_34]; exact PM_I0 hP
      refine lv_aload_n hx hb dX7_dairy_20 rfl (lv_at hl 0 rfl) ?_
      refine lv_aload_n hx hb dX7_dairy_21 rfl (lv_at hl 0 rfl) ?_
      refine va_get (D := D) (ci := 5) (v := .int (s0_34.1 11)) (C := RX7) (T := TX7) (N := 28) hx hb ht inX7 hown hK hP 0 eM_0 rfl 11 (by decide) (ht _ tw_666) (fun _ h9 => h9) rfl dX7_dairy_22 ?_
      refine va_put (D := D) (ci := 5) (v := .int (s0_34.1 11)) (ty := .int) (C := RX7) (T := TX7) (N := 28) hx hb ht inX7 tyX7 tyX7_ok nmX7 hown hK hP hD hS 0 eM_0 rfl 1 (by decide) (ht _ tw_656) (fun _ h9 => h9) rfl pf_I rfl rfl (Nat.le_of_ble_eq_true rfl) dX7_dairy_25 (fun H locs hP hD hS => ?_)
      obtain ⟨s0_35, es0_35⟩ : ∃ y : CS, y = sI s0_34 1 (s0_34.1 11) := ⟨_, rfl⟩
      have hf := hf s0_35 es0_35
      have hD := hDk s0_35
      have hP : va_P D classes (wM cI cZ q0 s0_35) H := by rw [es0_35]; exact PM_I1 hP
      refine lv_iconst (v := (0 : Int32)) hx hb dX7_dairy_28 (by decide) ?_
      refine lv_istore_n (lv' := [(1, .int (0 : Int32)), (0, .ref (q0 0))]) hx hb dX7_dairy_29 rfl hl (by decide) rfl (fun ls hl => ?_)
      exact k_30 (0 : Int32) s0_35 H locs ls hf hP hD hS (lv_sub hl [1, 0] rfl)
    · have hf := hf.2 c_33
      refine lv_bipush (v := (-3 : Int32)) hx hb dX7_dairy_9 (by decide) ?_
      exact W.iret (v := (-3 : Int32)) hx hb hr (fun t ht hW => ⟨⟨(-3 : Int32), s0_31, rfl, hf, P_heap ht hP⟩, hS.F ht⟩) hS.2.2 dX7_dairy_11
  exact start s.heap [] hP hD hS
def wp_X7_isOwner (p0 : Int32) (s0 : CS) (Q : Int32 → Prop) : Prop := wp_X7_in (p0.toInt64) (0 : Int64) (((s0.1 0) - (1 : Int32)).toInt64) (fun r_1 => narrow .boolean (.int r_1) = .int r_1 ∧ Q r_1)
set_option maxHeartbeats 4000000 in
set_option maxRecDepth 100000 in
theorem c_X7_isOwner (l : Launch) (D : va_G) (cI cZ cW : ClassId) (q0 : Nat → Nat) (p0 : Int32) (s0 : CS) (Q : Int32 → Prop) (hf : wp_X7_isOwner p0 s0 Q) : Met l yX7_isOwner (wsA yX7_isOwner cX7_isOwner 2 (some .boolean)) ({ frames := 1, cells := 0, slots := 0, locals := 25 }) (PR D cI cZ cW [.ref (q0 0), .int p0] (wM cI cZ q0 s0)) (vp_Si Q) 0 0 (fun _ => False) := by
  refine Met.ofW (cc := cX7_isOwner) (maxL := 2) (ret := (some .boolean)) (by decide) rfl ?_
  intro p e s m args below meth c s₁ B hml hv
  obtain ⟨rfl, hP, hK⟩ := hv
  have hx := B.exec
  have hb := B.bytes
  have hr := B.returns
  have hts := atoms_spec (ws := (wsA yX7_isOwner cX7_isOwner 2 (some .boolean))) B.pre
  have ht : ∀ w ∈ lw_g, w.before _ s = true := fun w h => hts w (List.mem_cons_of_mem _ h)
  have hown : s.vm.findClass RX7 = some m.cls := findClass_of_methodNamed B.named
  have hlocks := B.notSynchronized
  have hl := lv_entry ([.ref (q0 0), .int p0]) (n := 2) (Nat.le_of_ble_eq_true rfl)
  rw [lg_entry_eq]
  generalize (lg_sl ([.ref (q0 0), .int p0]) ++ List.replicate (2 - (lg_sl ([.ref (q0 0), .int p0])).length) Slot.unset).toArray = ls at hl ⊢
  have hl : lv_has ls 2 [(0, .ref (q0 0)), (1, .int p0)] := hl
  unfold wp_X7_isOwner at hf
  refine lv_iload_n hx hb dX7_isOwner_0 rfl (lv_at hl 1 rfl) ?_
  refine lv_i2l (v := p0.toInt64) hx hb dX7_isOwner_1 rfl ?_
  refine lv_lconst (v := (0 : Int64)) hx hb dX7_isOwner_2 (by decide) ?_
  refine lv_aload_n hx hb dX7_isOwner_3 rfl (lv_at hl 0 rfl) ?_
  refine va_get (D := D) (ci := 5) (v := .int (s0.1 0)) (C := RX7) (T := TX7) (N := 28) hx hb ht inX7 hown hK hP 0 eM_0 rfl 0 (by decide) (ht _ tw_655) (fun _ h9 => h9) rfl dX7_isOwner_4 ?_
  refine lv_iconst (v := (1 : Int32)) hx hb dX7_isOwner_7 (by decide) ?_
  refine lv_isub hx hb dX7_isOwner_8 ?_
  refine lv_i2l (v := ((s0.1 0) - (1 : Int32)).toInt64) hx hb dX7_isOwner_9 rfl ?_
  have hPc : va_P D classes ([] : va_W) s.heap := hP.sub [] rfl
  refine vp_callSi (W.runS (As := [.long p0.toInt64, .long (0 : Int64), .long ((s0.1 0) - (1 : Int32)).toInt64]) (rest := []) ⟨hx, hb, hml, hown, hts⟩ (c_X7_in l D cI cZ cW  (p0.toInt64) (0 : Int64) (((s0.1 0) - (1 : Int32)).toInt64) _ hf) ⟨callB_of 3 hts (gA tw_747) rfl rfl rfl (ht _ tw_7) (ht _ tw_745) hd_X7_in ⟨Nat.le_of_ble_eq_true rfl, Nat.le_of_ble_eq_true rfl⟩, ht _ tw_746⟩ ⟨PR_blind, fun U hU hW => PR_mk hPc hK hU hW⟩ rfl rfl hl.1 rfl (lv_room (Nat.le_of_ble_eq_true rfl)) dX7_isOwner_10 ⟨Nat.zero_le _, Nat.zero_le _⟩) (fun r_1 hf => ?_)
  obtain ⟨hn, hf⟩ := hf
  exact W.zret (v := r_1) hx hb hr hn (fun t ht hW => ⟨r_1, rfl, hf, ht⟩) (fun q h => absurd h List.not_mem_nil) dX7_isOwner_13
def wp_X7_isHole (p0 : Int32) (s0 : CS) (Q : Int32 → Prop) : Prop := wp_X7_in (p0.toInt64) (0 : Int64) (((s0.1 1) - (1 : Int32)).toInt64) (fun r_1 => narrow .boolean (.int r_1) = .int r_1 ∧ Q r_1)
set_option maxHeartbeats 4000000 in
set_option maxRecDepth 100000 in
theorem c_X7_isHole (l : Launch) (D : va_G) (cI cZ cW : ClassId) (q0 : Nat → Nat) (p0 : Int32) (s0 : CS) (Q : Int32 → Prop) (hf : wp_X7_isHole p0 s0 Q) : Met l yX7_isHole (wsA yX7_isHole cX7_isHole 2 (some .boolean)) ({ frames := 1, cells := 0, slots := 0, locals := 25 }) (PR D cI cZ cW [.ref (q0 0), .int p0] (wM cI cZ q0 s0)) (vp_Si Q) 0 0 (fun _ => False) := by
  refine Met.ofW (cc := cX7_isHole) (maxL := 2) (ret := (some .boolean)) (by decide) rfl ?_
  intro p e s m args below meth c s₁ B hml hv
  obtain ⟨rfl, hP, hK⟩ := hv
  have hx := B.exec
  have hb := B.bytes
  have hr := B.returns
  have hts := atoms_spec (ws := (wsA yX7_isHole cX7_isHole 2 (some .boolean))) B.pre
  have ht : ∀ w ∈ lw_g, w.before _ s = true := fun w h => hts w (List.mem_cons_of_mem _ h)
  have hown : s.vm.findClass RX7 = some m.cls := findClass_of_methodNamed B.named
  have hlocks := B.notSynchronized
  have hl := lv_entry ([.ref (q0 0), .int p0]) (n := 2) (Nat.le_of_ble_eq_true rfl)
  rw [lg_entry_eq]
  generalize (lg_sl ([.ref (q0 0), .int p0]) ++ List.replicate (2 - (lg_sl ([.ref (q0 0), .int p0])).length) Slot.unset).toArray = ls at hl ⊢
  have hl : lv_has ls 2 [(0, .ref (q0 0)), (1, .int p0)] := hl
  unfold wp_X7_isHole at hf
  refine lv_iload_n hx hb dX7_isHole_0 rfl (lv_at hl 1 rfl) ?_
  refine lv_i2l (v := p0.toInt64) hx hb dX7_isHole_1 rfl ?_
  refine lv_lconst (v := (0 : Int64)) hx hb dX7_isHole_2 (by decide) ?_
  refine lv_aload_n hx hb dX7_isHole_3 rfl (lv_at hl 0 rfl) ?_
  refine va_get (D := D) (ci := 5) (v := .int (s0.1 1)) (C := RX7) (T := TX7) (N := 28) hx hb ht inX7 hown hK hP 0 eM_0 rfl 1 (by decide) (ht _ tw_656) (fun _ h9 => h9) rfl dX7_isHole_4 ?_
  refine lv_iconst (v := (1 : Int32)) hx hb dX7_isHole_7 (by decide) ?_
  refine lv_isub hx hb dX7_isHole_8 ?_
  refine lv_i2l (v := ((s0.1 1) - (1 : Int32)).toInt64) hx hb dX7_isHole_9 rfl ?_
  have hPc : va_P D classes ([] : va_W) s.heap := hP.sub [] rfl
  refine vp_callSi (W.runS (As := [.long p0.toInt64, .long (0 : Int64), .long ((s0.1 1) - (1 : Int32)).toInt64]) (rest := []) ⟨hx, hb, hml, hown, hts⟩ (c_X7_in l D cI cZ cW  (p0.toInt64) (0 : Int64) (((s0.1 1) - (1 : Int32)).toInt64) _ hf) ⟨callB_of 3 hts (gA tw_747) rfl rfl rfl (ht _ tw_7) (ht _ tw_745) hd_X7_in ⟨Nat.le_of_ble_eq_true rfl, Nat.le_of_ble_eq_true rfl⟩, ht _ tw_746⟩ ⟨PR_blind, fun U hU hW => PR_mk hPc hK hU hW⟩ rfl rfl hl.1 rfl (lv_room (Nat.le_of_ble_eq_true rfl)) dX7_isHole_10 ⟨Nat.zero_le _, Nat.zero_le _⟩) (fun r_1 hf => ?_)
  obtain ⟨hn, hf⟩ := hf
  exact W.zret (v := r_1) hx hb hr hn (fun t ht hW => ⟨r_1, rfl, hf, ht⟩) (fun q h => absurd h List.not_mem_nil) dX7_isHole_13
def wp_X7_isCell (p0 : Int32) (Q : Int32 → Prop) : Prop := wp_X7_in (p0.toInt64) (0 : Int64) (19 : Int64) (fun r_1 => narrow .boolean (.int r_1) = .int r_1 ∧ Q r_1)
set_option maxHeartbeats 4000000 in
set_option maxRecDepth 100000 in
theorem c_X7_isCell (l : Launch) (D : va_G) (cI cZ cW : ClassId)  (p0 : Int32) (Q : Int32 → Prop) (hf : wp_X7_isCell p0 Q) : Met l yX7_isCell (wsA yX7_isCell cX7_isCell 1 (some .boolean)) ({ frames := 1, cells := 0, slots := 0, locals := 25 }) (PR D cI cZ cW [.int p0] ([] : va_W)) (vp_Si Q) 0 0 (fun _ => False) := by
  refine Met.ofW (cc := cX7_isCell) (maxL := 1) (ret := (some .boolean)) (by decide) rfl ?_
  intro p e s m args below meth c s₁ B hml hv
  obtain ⟨rfl, hP, hK⟩ := hv
  have hx := B.exec
  have hb := B.bytes
  have hr := B.returns
  have hts := atoms_spec (ws := (wsA yX7_isCell cX7_isCell 1 (some .boolean))) B.pre
  have ht : ∀ w ∈ lw_g, w.before _ s = true := fun w h => hts w (List.mem_cons_of_mem _ h)
  have hown : s.vm.findClass RX7 = some m.cls := findClass_of_methodNamed B.named
  have hlocks := B.notSynchronized
  have hl := lv_entry ([.int p0]) (n := 1) (Nat.le_of_ble_eq_true rfl)
  rw [lg_entry_eq]
  generalize (lg_sl ([.int p0]) ++ List.replicate (1 - (lg_sl ([.int p0])).length) Slot.unset).toArray = ls at hl ⊢
  have hl : lv_has ls 1 [(0, .int p0)] := hl
  unfold wp_X7_isCell at hf
  refine lv_iload_n hx hb dX7_isCell_0 rfl (lv_at hl 0 rfl) ?_
  refine lv_i2l (v := p0.toInt64) hx hb dX7_isCell_1 rfl ?_
  refine lv_lconst (v := (0 : Int64)) hx hb dX7_isCell_2 (by decide) ?_
  refine lv_ldc2 (v := (19 : Int64)) hx hb hown (ht _ tw_768) dX7_isCell_3 ?_
  have hPc : va_P D classes ([] : va_W) s.heap := hP
  refine vp_callSi (W.runS (As := [.long p0.toInt64, .long (0 : Int64), .long (19 : Int64)]) (rest := []) ⟨hx, hb, hml, hown, hts⟩ (c_X7_in l D cI cZ cW  (p0.toInt64) (0 : Int64) (19 : Int64) _ hf) ⟨callB_of 3 hts (gA tw_747) rfl rfl rfl (ht _ tw_7) (ht _ tw_745) hd_X7_in ⟨Nat.le_of_ble_eq_true rfl, Nat.le_of_ble_eq_true rfl⟩, ht _ tw_746⟩ ⟨PR_blind, fun U hU hW => PR_mk hPc hK hU hW⟩ rfl rfl hl.1 rfl (lv_room (Nat.le_of_ble_eq_true rfl)) dX7_isCell_6 ⟨Nat.zero_le _, Nat.zero_le _⟩) (fun r_1 hf => ?_)
  obtain ⟨hn, hf⟩ := hf
  exact W.zret (v := r_1) hx hb hr hn (fun t ht hW => ⟨r_1, rfl, hf, ht⟩) (fun q h => absurd h List.not_mem_nil) dX7_isCell_9
def B_X7_of_37 (G5 : (Int32 × Int32 × Int32 × Int32) → Prop) (s0 : CS) (x1 : Int32) (x2 : Int32) (x4 : Int32) (t0 : Int32) (t1 : Int32) (Q : Int32 → Prop) : Prop := ∀ x3_1 : Int32, x3_1 = (t1 ||| t0) → ∀ x4_2 : Int32, x4_2 = x4 + (1 : Int32) → G5 (x1, x2, x3_1, x4_2)
def LB_X7_of_5 (G5 : (Int32 × Int32 × Int32 × Int32) → Prop) (s0 : CS) (x1 : Int32) (x2 : Int32) (x3 : Int32) (x4 : Int32) (Q : Int32 → Prop) : Prop := (((20 : Int32) ≤ x4 → Q x3) ∧ (¬ (20 : Int32) ≤ x4 → vp_in (((35 : Int32) * x1) + x4) 70 ∧ ((¬ ((s0.2.1 5) (((35 : Int32) * x1) + x4).toNatClampNeg) = x2 → B_X7_of_37 G5 s0 x1 x2 x4 (0 : Int32) x3 Q) ∧ (((s0.2.1 5) (((35 : Int32) * x1) + x4).toNatClampNeg) = x2 → B_X7_of_37 G5 s0 x1 x2 x4 ((1 : Int32) <<< (x4 &&& 31)) x3 Q))))
def B_X7_of_5 (s0 : CS) (x1 : Int32) (x2 : Int32) (x3 : Int32) (x4 : Int32) (Q : Int32 → Prop) : Prop := LOOP (fun (G5 : (Int32 × Int32 × Int32 × Int32) → Prop) z => LB_X7_of_5 G5 s0 z.1 z.2.1 z.2.2.1 z.2.2.2 Q) (x1, x2, x3, x4)
def wp_X7_of (p0 : Int32) (p1 : Int32) (s0 : CS) (Q : Int32 → Prop) : Prop := B_X7_of_5 s0 p0 p1 (0 : Int32) (0 : Int32) Q
set_option maxHeartbeats 4000000 in
set_option maxRecDepth 100000 in
theorem c_X7_of (l : Launch) (D : va_G) (cI cZ cW : ClassId) (q0 : Nat → Nat) (p0 : Int32) (p1 : Int32) (s0 : CS) (Q : Int32 → Prop) (hf : wp_X7_of p0 p1 s0 Q) : Met l yX7_of (wsA yX7_of cX7_of 5 (some .int)) ({ frames := 0, cells := 0, slots := 0, locals := 0 }) (PR D cI cZ cW [.ref (q0 0), .int p0, .int p1] (wM cI cZ q0 s0)) (vp_Si Q) 0 0 (fun _ => False) := by
  refine Met.ofW (cc := cX7_of) (maxL := 5) (ret := (some .int)) (by decide) rfl ?_
  intro p e s m args below meth c s₁ B hml hv
  obtain ⟨rfl, hP, hK⟩ := hv
  have hx := B.exec
  have hb := B.bytes
  have hr := B.returns
  have hts := atoms_spec (ws := (wsA yX7_of cX7_of 5 (some .int))) B.pre
  have ht : ∀ w ∈ lw_g, w.before _ s = true := fun w h => hts w (List.mem_cons_of_mem _ h)
  have hown : s.vm.findClass RX7 = some m.cls := findClass_of_methodNamed B.named
  have hlocks := B.notSynchronized
  have hl := lv_entry ([.ref (q0 0), .int p0, .int p1]) (n := 5) (Nat.le_of_ble_eq_true rfl)
  rw [lg_entry_eq]
  generalize (lg_sl ([.ref (q0 0), .int p0, .int p1]) ++ List.replicate (5 - (lg_sl ([.ref (q0 0), .int p0, .int p1])).length) Slot.unset).toArray = ls at hl ⊢
  have hl : lv_has ls 5 [(0, .ref (q0 0)), (1, .int p0), (2, .int p1)] := hl
  unfold wp_X7_of at hf
  have k_5 : ∀ (x1 : Int32) (x2 : Int32) (x3 : Int32) (x4 : Int32) (ls : Array Slot), B_X7_of_5 s0 x1 x2 x3 x4 Q → lv_has ls 5 [(0, .ref (q0 0)), (1, .int x1), (2, .int x2), (3, .int x3), (4, .int x4)] → W p l e (headSpec (wsA yX7_of cX7_of 5 (some .int)) ({ frames := 0, cells := 0, slots := 0, locals := 0 })).room s m (#[.ref (q0 0), .int p0, .int p1] : Array Value) below meth c s.heap [] 0 0 (MQ below (vp_Si Q) (#[.ref (q0 0), .int p0, .int p1] : Array Value) s 0 0 (fun _ => False)) (F0 m 5 ls []) := by
    intro x1 x2 x3 x4 ls hf hl
    unfold B_X7_of_5 at hf
    obtain ⟨I_5, ⟨n0_5, hI0_5⟩, hst_5⟩ := hf
    have main_5 : ∀ (n : Nat) (x1 : Int32) (x2 : Int32) (x3 : Int32) (x4 : Int32) (ls : Array Slot), I_5 n (x1, x2, x3, x4) → lv_has ls 5 [(0, .ref (q0 0)), (1, .int x1), (2, .int x2), (3, .int x3), (4, .int x4)] → W p l e (headSpec (wsA yX7_of cX7_of 5 (some .int)) ({ frames := 0, cells := 0, slots := 0, locals := 0 })).room s m (#[.ref (q0 0), .int p0, .int p1] : Array Value) below meth c s.heap [] 0 0 (MQ below (vp_Si Q) (#[.ref (q0 0), .int p0, .int p1] : Array Value) s 0 0 (fun _ => False)) (F0 m 5 ls []) := by
      intro n
      induction n using Nat.strongRecOn with
      | _ n_5 ih_5 =>
      intro x1 x2 x3 x4 ls hI hl
      have hf : LB_X7_of_5 (fun z => ∃ k, k < n_5 ∧ I_5 k z) s0 x1 x2 x3 x4 Q := hst_5 n_5 (x1, x2, x3, x4) hI
      have hG_5 : ∀ (x1 : Int32) (x2 : Int32) (x3 : Int32) (x4 : Int32) (ls : Array Slot), (∃ k, k < n_5 ∧ I_5 k (x1, x2, x3, x4)) → lv_has ls 5 [(0, .ref (q0 0)), (1, .int x1), (2, .int x2), (3, .int x3), (4, .int x4)] → W p l e (headSpec (wsA yX7_of cX7_of 5 (some .int)) ({ frames := 0, cells := 0, slots := 0, locals := 0 })).room s m (#[.ref (q0 0), .int p0, .int p1] : Array Value) below meth c s.heap [] 0 0 (MQ below (vp_Si Q) (#[.ref (q0 0), .int p0, .int p1] : Array Value) s 0 0 (fun _ => False)) (F0 m 5 ls []) := by
        rintro x1 x2 x3 x4 ls ⟨k, hk, hI⟩ hl
        exact ih_5 k hk x1 x2 x3 x4 ls hI hl
      unfold LB_X7_of_5 at hf
      have k_37 : ∀ (x1 : Int32) (x2 : Int32) (x4 : Int32) (t0 : Int32) (t1 : Int32) (ls : Array Slot), B_X7_of_37 (fun z => ∃ k, k < n_5 ∧ I_5 k z) s0 x1 x2 x4 t0 t1 Q → lv_has ls 5 [(0, .ref (q0 0)), (1, .int x1), (2, .int x2), (4, .int x4)] → W p l e (headSpec (wsA yX7_of cX7_of 5 (some .int)) ({ frames := 0, cells := 0, slots := 0, locals := 0 })).room s m (#[.ref (q0 0), .int p0, .int p1] : Array Value) below meth c s.heap [] 0 0 (MQ below (vp_Si Q) (#[.ref (q0 0), .int p0, .int p1] : Array Value) s 0 0 (fun _ => False)) (F0 m 37 ls [.int t0, .int t1]) := by
        intro x1 x2 x4 t0 t1 ls hf hl
        unfold B_X7_of_37 at hf
        refine lv_ior hx hb dX7_of_37 ?_
        refine lv_topi (fun x3_1 ex3_1 => ?_)
        have hf := hf x3_1 ex3_1
        refine lv_istore_n (lv' := [(3, .int x3_1), (0, .ref (q0 0)), (1, .int x1), (2, .int x2), (4, .int x4)]) hx hb dX7_of_38 rfl hl (by decide) rfl (fun ls hl => ?_)
        obtain ⟨x4_2, ex4_2⟩ : ∃ y : Int32, y = x4 + (1 : Int32) := ⟨_, rfl⟩
        have hf := hf x4_2 ex4_2
        refine lv_iinc (v := x4_2) (lv' := [(4, .int x4_2), (3, .int x3_1), (0, .ref (q0 0)), (1, .int x1), (2, .int x2)]) hx hb dX7_of_39 hl (k := 4) rfl (by rw [ex4_2]; rfl) (by decide) rfl (fun ls hl => ?_)
        refine lv_goto (tgt := 5) hx hb dX7_of_42 (by decide) ?_
        exact hG_5 x1 x2 x3_1 x4_2 ls hf (lv_sub hl [2, 3, 4, 1, 0] rfl)
      refine lv_iload hx hb dX7_of_5 (lv_at hl 4 rfl) ?_
      refine lv_bipush (v := (20 : Int32)) hx hb dX7_of_7 (by decide) ?_
      refine lv_icmp_ge (tgt := 45) hx hb dX7_of_9 (by decide) (fun c_3 => ?_) (fun c_3 => ?_)
      · have hf := hf.1 c_3
        refine lv_iload_n hx hb dX7_of_45 rfl (lv_at hl 3 rfl) ?_
        exact W.iret (v := x3) hx hb hr (fun t ht hW => ⟨x3, rfl, hf, ht⟩) (fun q h => absurd h List.not_mem_nil) dX7_of_46
      · have hf := hf.2 c_3
        refine lv_iload_n hx hb dX7_of_12 rfl (lv_at hl 3 rfl) ?_
        refine lv_aload_n hx hb dX7_of_13 rfl (lv_at hl 0 rfl) ?_
        refine va_get (D := D) (ci := 5) (v := .ref (q0 4)) (C := RX7) (T := TX7) (N := 28) hx hb ht inX7 hown hK hP 0 eM_0 rfl 5 (by decide) (ht _ tw_660) (fun _ h9 => h9) rfl dX7_of_14 ?_
        refine lv_bipush (v := (35 : Int32)) hx hb dX7_of_17 (by decide) ?_
        refine lv_iload_n hx hb dX7_of_19 rfl (lv_at hl 1 rfl) ?_
        refine lv_imul hx hb dX7_of_20 ?_
        refine lv_iload hx hb dX7_of_21 (lv_at hl 4 rfl) ?_
        refine lv_iadd hx hb dX7_of_23 ?_
        obtain ⟨hi_4, hf⟩ := hf
        refine va_iald hx hb hK hP 4 0 eM_4 rfl hi_4 dX7_of_24 ?_
        refine lv_iload_n hx hb dX7_of_25 rfl (lv_at hl 2 rfl) ?_
        refine lv_icmp_ne (tgt := 36) hx hb dX7_of_26 (by decide) (fun c_5 => ?_) (fun c_5 => ?_)
        · have hf := hf.1 c_5
          refine lv_iconst (v := (0 : Int32)) hx hb dX7_of_36 (by decide) ?_
          exact k_37 x1 x2 x4 (0 : Int32) x3 ls hf (lv_sub hl [0, 1, 2, 4] rfl)
        · have hf := hf.2 c_5
          refine lv_iconst (v := (1 : Int32)) hx hb dX7_of_29 (by decide) ?_
          refine lv_iload hx hb dX7_of_30 (lv_at hl 4 rfl) ?_
          refine lv_ishl hx hb dX7_of_32 ?_
          refine lv_goto (tgt := 37) hx hb dX7_of_33 (by decide) ?_
          exact k_37 x1 x2 x4 ((1 : Int32) <<< (x4 &&& 31)) x3 ls hf (lv_sub hl [0, 1, 2, 4] rfl)
    exact main_5 n0_5 x1 x2 x3 x4 ls hI0_5 hl
  refine lv_iconst (v := (0 : Int32)) hx hb dX7_of_0 (by decide) ?_
  refine lv_istore_n (lv' := [(3, .int (0 : Int32)), (0, .ref (q0 0)), (1, .int p0), (2, .int p1)]) hx hb dX7_of_1 rfl hl (by decide) rfl (fun ls hl => ?_)
  refine lv_iconst (v := (0 : Int32)) hx hb dX7_of_2 (by decide) ?_
  refine lv_istore (lv' := [(4, .int (0 : Int32)), (3, .int (0 : Int32)), (0, .ref (q0 0)), (1, .int p0), (2, .int p1)]) hx hb dX7_of_3 hl (by decide) rfl (fun ls hl => ?_)
  exact k_5 p0 p1 (0 : Int32) (0 : Int32) ls hf (lv_sub hl [2, 3, 4, 1, 0] rfl)
def LB_X7_beside_12 (G12 : (Int32 × Int32 × Int32 × Int32) → Prop)  (x0 : Int32) (x1 : Int32) (x2 : Int32) (x3 : Int32) (Q : Int32 → Prop) : Prop := (((4 : Int32) ≤ x3 → Q (((x1 ||| ((x0 &&& (x2 ^^^ (-1 : Int32))) >>> ((1 : Int32) &&& 31))) ||| ((x0 &&& ((x2 <<< ((4 : Int32) &&& 31)) ^^^ (-1 : Int32))) <<< ((1 : Int32) &&& 31))) &&& (1048575 : Int32))) ∧ (¬ (4 : Int32) ≤ x3 → ∀ x2_2 : Int32, x2_2 = (x2 ||| ((1 : Int32) <<< (((5 : Int32) * x3) &&& 31))) → ∀ x3_3 : Int32, x3_3 = x3 + (1 : Int32) → G12 (x0, x1, x2_2, x3_3)))
def B_X7_beside_12  (x0 : Int32) (x1 : Int32) (x2 : Int32) (x3 : Int32) (Q : Int32 → Prop) : Prop := LOOP (fun (G12 : (Int32 × Int32 × Int32 × Int32) → Prop) z => LB_X7_beside_12 G12  z.1 z.2.1 z.2.2.1 z.2.2.2 Q) (x0, x1, x2, x3)
def wp_X7_beside (p0 : Int32) (Q : Int32 → Prop) : Prop := ∀ x1_4 : Int32, x1_4 = ((p0 <<< ((5 : Int32) &&& 31)) ||| (p0 >>> ((5 : Int32) &&& 31))) → B_X7_beside_12  p0 x1_4 (0 : Int32) (0 : Int32) Q
set_option maxHeartbeats 4000000 in
set_option maxRecDepth 100000 in
theorem c_X7_beside (l : Launch) (D : va_G) (cI cZ cW : ClassId)  (p0 : Int32) (Q : Int32 → Prop) (hf : wp_X7_beside p0 Q) : Met l yX7_beside (wsA yX7_beside cX7_beside 4 (some .int)) ({ frames := 0, cells := 0, slots := 0, locals := 0 }) (PR D cI cZ cW [.int p0] ([] : va_W)) (vp_Si Q) 0 0 (fun _ => False) := by
  refine Met.ofW (cc := cX7_beside) (maxL := 4) (ret := (some .int)) (by decide) rfl ?_
  intro p e s m args below meth c s₁ B hml hv
  obtain ⟨rfl, hP, hK⟩ := hv
  have hx := B.exec
  have hb := B.bytes
  have hr := B.returns
  have hts := atoms_spec (ws := (wsA yX7_beside cX7_beside 4 (some .int))) B.pre
  have ht : ∀ w ∈ lw_g, w.before _ s = true := fun w h => hts w (List.mem_cons_of_mem _ h)
  have hown : s.vm.findClass RX7 = some m.cls := findClass_of_methodNamed B.named
  have hlocks := B.notSynchronized
  have hl := lv_entry ([.int p0]) (n := 4) (Nat.le_of_ble_eq_true rfl)
  rw [lg_entry_eq]
  generalize (lg_sl ([.int p0]) ++ List.replicate (4 - (lg_sl ([.int p0])).length) Slot.unset).toArray = ls at hl ⊢
  have hl : lv_has ls 4 [(0, .int p0)] := hl
  unfold wp_X7_beside at hf
  have k_12 : ∀ (x0 : Int32) (x1 : Int32) (x2 : Int32) (x3 : Int32) (ls : Array Slot), B_X7_beside_12  x0 x1 x2 x3 Q → lv_has ls 4 [(0, .int x0), (1, .int x1), (2, .int x2), (3, .int x3)] → W p l e (headSpec (wsA yX7_beside cX7_beside 4 (some .int)) ({ frames := 0, cells := 0, slots := 0, locals := 0 })).room s m (#[.int p0] : Array Value) below meth c s.heap [] 0 0 (MQ below (vp_Si Q) (#[.int p0] : Array Value) s 0 0 (fun _ => False)) (F0 m 12 ls []) := by
    intro x0 x1 x2 x3 ls hf hl
    unfold B_X7_beside_12 at hf
    obtain ⟨I_12, ⟨n0_12, hI0_12⟩, hst_12⟩ := hf
    have main_12 : ∀ (n : Nat) (x0 : Int32) (x1 : Int32) (x2 : Int32) (x3 : Int32) (ls : Array Slot), I_12 n (x0, x1, x2, x3) → lv_has ls 4 [(0, .int x0), (1, .int x1), (2, .int x2), (3, .int x3)] → W p l e (headSpec (wsA yX7_beside cX7_beside 4 (some .int)) ({ frames := 0, cells := 0, slots := 0, locals := 0 })).room s m (#[.int p0] : Array Value) below meth c s.heap [] 0 0 (MQ below (vp_Si Q) (#[.int p0] : Array Value) s 0 0 (fun _ => False)) (F0 m 12 ls []) := by
      intro n
      induction n using Nat.strongRecOn with
      | _ n_12 ih_12 =>
      intro x0 x1 x2 x3 ls hI hl
      have hf : LB_X7_beside_12 (fun z => ∃ k, k < n_12 ∧ I_12 k z)  x0 x1 x2 x3 Q := hst_12 n_12 (x0, x1, x2, x3) hI
      have hG_12 : ∀ (x0 : Int32) (x1 : Int32) (x2 : Int32) (x3 : Int32) (ls : Array Slot), (∃ k, k < n_12 ∧ I_12 k (x0, x1, x2, x3)) → lv_has ls 4 [(0, .int x0), (1, .int x1), (2, .int x2), (3, .int x3)] → W p l e (headSpec (wsA yX7_beside cX7_beside 4 (some .int)) ({ frames := 0, cells := 0, slots := 0, locals := 0 })).room s m (#[.int p0] : Array Value) below meth c s.heap [] 0 0 (MQ below (vp_Si Q) (#[.int p0] : Array Value) s 0 0 (fun _ => False)) (F0 m 12 ls []) := by
        rintro x0 x1 x2 x3 ls ⟨k, hk, hI⟩ hl
        exact ih_12 k hk x0 x1 x2 x3 ls hI hl
      unfold LB_X7_beside_12 at hf
      refine lv_iload_n hx hb dX7_beside_12 rfl (lv_at hl 3 rfl) ?_
      refine lv_iconst (v := (4 : Int32)) hx hb dX7_beside_13 (by decide) ?_
      refine lv_icmp_ge (tgt := 31) hx hb dX7_beside_14 (by decide) (fun c_1 => ?_) (fun c_1 => ?_)
      · have hf := hf.1 c_1
        refine lv_iload_n hx hb dX7_beside_31 rfl (lv_at hl 1 rfl) ?_
        refine lv_iload_n hx hb dX7_beside_32 rfl (lv_at hl 0 rfl) ?_
        refine lv_iload_n hx hb dX7_beside_33 rfl (lv_at hl 2 rfl) ?_
        refine lv_iconst (v := (-1 : Int32)) hx hb dX7_beside_34 (by decide) ?_
        refine lv_ixor hx hb dX7_beside_35 ?_
        refine lv_iand hx hb dX7_beside_36 ?_
        refine lv_iconst (v := (1 : Int32)) hx hb dX7_beside_37 (by decide) ?_
        refine lv_ishr hx hb dX7_beside_38 ?_
        refine lv_ior hx hb dX7_beside_39 ?_
        refine lv_iload_n hx hb dX7_beside_40 rfl (lv_at hl 0 rfl) ?_
        refine lv_iload_n hx hb dX7_beside_41 rfl (lv_at hl 2 rfl) ?_
        refine lv_iconst (v := (4 : Int32)) hx hb dX7_beside_42 (by decide) ?_
        refine lv_ishl hx hb dX7_beside_43 ?_
        refine lv_iconst (v := (-1 : Int32)) hx hb dX7_beside_44 (by decide) ?_
        refine lv_ixor hx hb dX7_beside_45 ?_
        refine lv_iand hx hb dX7_beside_46 ?_
        refine lv_iconst (v := (1 : Int32)) hx hb dX7_beside_47 (by decide) ?_
        refine lv_ishl hx hb dX7_beside_48 ?_
        refine lv_ior hx hb dX7_beside_49 ?_
        refine lv_ldc (v := (1048575 : Int32)) hx hb hown (ht _ tw_772) dX7_beside_50 ?_
        refine lv_iand hx hb dX7_beside_52 ?_
        exact W.iret (v := (((x1 ||| ((x0 &&& (x2 ^^^ (-1 : Int32))) >>> ((1 : Int32) &&& 31))) ||| ((x0 &&& ((x2 <<< ((4 : Int32) &&& 31)) ^^^ (-1 : Int32))) <<< ((1 : Int32) &&& 31))) &&& (1048575 : Int32))) hx hb hr (fun t ht hW => ⟨(((x1 ||| ((x0 &&& (x2 ^^^ (-1 : Int32))) >>> ((1 : Int32) &&& 31))) ||| ((x0 &&& ((x2 <<< ((4 : Int32) &&& 31)) ^^^ (-1 : Int32))) <<< ((1 : Int32) &&& 31))) &&& (1048575 : Int32)), rfl, hf, ht⟩) (fun q h => absurd h List.not_mem_nil) dX7_beside_53
      · have hf := hf.2 c_1
        refine lv_iload_n hx hb dX7_beside_17 rfl (lv_at hl 2 rfl) ?_
        refine lv_iconst (v := (1 : Int32)) hx hb dX7_beside_18 (by decide) ?_
        refine lv_iconst (v := (5 : Int32)) hx hb dX7_beside_19 (by decide) ?_
        refine lv_iload_n hx hb dX7_beside_20 rfl (lv_at hl 3 rfl) ?_
        refine lv_imul hx hb dX7_beside_21 ?_
        refine lv_ishl hx hb dX7_beside_22 ?_
        refine lv_ior hx hb dX7_beside_23 ?_
        refine lv_topi (fun x2_2 ex2_2 => ?_)
        have hf := hf x2_2 ex2_2
        refine lv_istore_n (lv' := [(2, .int x2_2), (0, .int x0), (1, .int x1), (3, .int x3)]) hx hb dX7_beside_24 rfl hl (by decide) rfl (fun ls hl => ?_)
        obtain ⟨x3_3, ex3_3⟩ : ∃ y : Int32, y = x3 + (1 : Int32) := ⟨_, rfl⟩
        have hf := hf x3_3 ex3_3
        refine lv_iinc (v := x3_3) (lv' := [(3, .int x3_3), (2, .int x2_2), (0, .int x0), (1, .int x1)]) hx hb dX7_beside_25 hl (k := 3) rfl (by rw [ex3_3]; rfl) (by decide) rfl (fun ls hl => ?_)
        refine lv_goto (tgt := 12) hx hb dX7_beside_28 (by decide) ?_
        exact hG_12 x0 x1 x2_2 x3_3 ls hf (lv_sub hl [2, 3, 1, 0] rfl)
    exact main_12 n0_12 x0 x1 x2 x3 ls hI0_12 hl
  refine lv_iload_n hx hb dX7_beside_0 rfl (lv_at hl 0 rfl) ?_
  refine lv_iconst (v := (5 : Int32)) hx hb dX7_beside_1 (by decide) ?_
  refine lv_ishl hx hb dX7_beside_2 ?_
  refine lv_iload_n hx hb dX7_beside_3 rfl (lv_at hl 0 rfl) ?_
  refine lv_iconst (v := (5 : Int32)) hx hb dX7_beside_4 (by decide) ?_
  refine lv_ishr hx hb dX7_beside_5 ?_
  refine lv_ior hx hb dX7_beside_6 ?_
  refine lv_topi (fun x1_4 ex1_4 => ?_)
  have hf := hf x1_4 ex1_4
  refine lv_istore_n (lv' := [(1, .int x1_4), (0, .int p0)]) hx hb dX7_beside_7 rfl hl (by decide) rfl (fun ls hl => ?_)
  refine lv_iconst (v := (0 : Int32)) hx hb dX7_beside_8 (by decide) ?_
  refine lv_istore_n (lv' := [(2, .int (0 : Int32)), (1, .int x1_4), (0, .int p0)]) hx hb dX7_beside_9 rfl hl (by decide) rfl (fun ls hl => ?_)
  refine lv_iconst (v := (0 : Int32)) hx hb dX7_beside_10 (by decide) ?_
  refine lv_istore_n (lv' := [(3, .int (0 : Int32)), (2, .int (0 : Int32)), (1, .int x1_4), (0, .int p0)]) hx hb dX7_beside_11 rfl hl (by decide) rfl (fun ls hl => ?_)
  exact k_12 p0 x1_4 (0 : Int32) (0 : Int32) ls hf (lv_sub hl [3, 2, 1, 0] rfl)
def wp_X7_ownerOf (p0 : Int32) (p1 : Int32) (s0 : CS) (Q : Int32 → Prop) : Prop := vp_in (((35 : Int32) * p0) + p1) 70 ∧ ∀ x3_2 : Int32, x3_2 = ((s0.2.1 5) (((35 : Int32) * p0) + p1).toNatClampNeg) → ((¬ x3_2 = (7 : Int32) → ((¬ x3_2 = (8 : Int32) → vp_in ((((35 : Int32) * p0) + (20 : Int32)) + x3_2) 70 ∧ Q ((s0.2.1 5) ((((35 : Int32) * p0) + (20 : Int32)) + x3_2).toNatClampNeg)) ∧ (x3_2 = (8 : Int32) → Q (-9 : Int32)))) ∧ (x3_2 = (7 : Int32) → vp_in (p1 / (5 : Int32)) 4 ∧ Q ((s0.2.1 3) (p1 / (5 : Int32)).toNatClampNeg)))
set_option maxHeartbeats 4000000 in
set_option maxRecDepth 100000 in
theorem c_X7_ownerOf (l : Launch) (D : va_G) (cI cZ cW : ClassId) (q0 : Nat → Nat) (p0 : Int32) (p1 : Int32) (s0 : CS) (Q : Int32 → Prop) (hf : wp_X7_ownerOf p0 p1 s0 Q) : Met l yX7_ownerOf (wsA yX7_ownerOf cX7_ownerOf 4 (some .int)) ({ frames := 0, cells := 0, slots := 0, locals := 0 }) (PR D cI cZ cW [.ref (q0 0), .int p0, .int p1] (wM cI cZ q0 s0)) (vp_Si Q) 0 0 (fun _ => False) := by
  refine Met.ofW (cc := cX7_ownerOf) (maxL := 4) (ret := (some .int)) (by decide) rfl ?_
  intro p e s m args below meth c s₁ B hml hv
  obtain ⟨rfl, hP, hK⟩ := hv
  have hx := B.exec
  have hb := B.bytes
  have hr := B.returns
  have hts := atoms_spec (ws := (wsA yX7_ownerOf cX7_ownerOf 4 (some .int))) B.pre
  have ht : ∀ w ∈ lw_g, w.before _ s = true := fun w h => hts w (List.mem_cons_of_mem _ h)
  have hown : s.vm.findClass RX7 = some m.cls := findClass_of_methodNamed B.named
  have hlocks := B.notSynchronized
  have hl := lv_entry ([.ref (q0 0), .int p0, .int p1]) (n := 4) (Nat.le_of_ble_eq_true rfl)
  rw [lg_entry_eq]
  generalize (lg_sl ([.ref (q0 0), .int p0, .int p1]) ++ List.replicate (4 - (lg_sl ([.ref (q0 0), .int p0, .int p1])).length) Slot.unset).toArray = ls at hl ⊢
  have hl : lv_has ls 4 [(0, .ref (q0 0)), (1, .int p0), (2, .int p1)] := hl
  unfold wp_X7_ownerOf at hf
  refine lv_aload_n hx hb dX7_ownerOf_0 rfl (lv_at hl 0 rfl) ?_
  refine va_get (D := D) (ci := 5) (v := .ref (q0 4)) (C := RX7) (T := TX7) (N := 28) hx hb ht inX7 hown hK hP 0 eM_0 rfl 5 (by decide) (ht _ tw_660) (fun _ h9 => h9) rfl dX7_ownerOf_1 ?_
  refine lv_bipush (v := (35 : Int32)) hx hb dX7_ownerOf_4 (by decide) ?_
  refine lv_iload_n hx hb dX7_ownerOf_6 rfl (lv_at hl 1 rfl) ?_
  refine lv_imul hx hb dX7_ownerOf_7 ?_
  refine lv_iload_n hx hb dX7_ownerOf_8 rfl (lv_at hl 2 rfl) ?_
  refine lv_iadd hx hb dX7_ownerOf_9 ?_
  obtain ⟨hi_1, hf⟩ := hf
  refine va_iald hx hb hK hP 4 0 eM_4 rfl hi_1 dX7_ownerOf_10 ?_
  refine lv_topi (fun x3_2 ex3_2 => ?_)
  have hf := hf x3_2 ex3_2
  refine lv_istore_n (lv' := [(3, .int x3_2), (0, .ref (q0 0)), (1, .int p0), (2, .int p1)]) hx hb dX7_ownerOf_11 rfl hl (by decide) rfl (fun ls hl => ?_)
  refine lv_iload_n hx hb dX7_ownerOf_12 rfl (lv_at hl 0 rfl) ?_
  refine lv_bipush (v := (7 : Int32)) hx hb dX7_ownerOf_13 (by decide) ?_
  refine lv_icmp_ne (tgt := 29) hx hb dX7_ownerOf_15 (by decide) (fun c_3 => ?_) (fun c_3 => ?_)
  · have hf := hf.1 c_3
    refine lv_iload_n hx hb dX7_ownerOf_29 rfl (lv_at hl 0 rfl) ?_
    refine lv_bipush (v := (8 : Int32)) hx hb dX7_ownerOf_30 (by decide) ?_
    refine lv_icmp_ne (tgt := 40) hx hb dX7_ownerOf_32 (by decide) (fun c_4 => ?_) (fun c_4 => ?_)
    · have hf := hf.1 c_4
      refine lv_aload_n hx hb dX7_ownerOf_40 rfl (lv_at hl 1 rfl) ?_
      refine va_get (D := D) (ci := 5) (v := .ref (q0 4)) (C := RX7) (T := TX7) (N := 28) hx hb ht inX7 hown hK hP 0 eM_0 rfl 5 (by decide) (ht _ tw_660) (fun _ h9 => h9) rfl dX7_ownerOf_41 ?_
      refine lv_bipush (v := (35 : Int32)) hx hb dX7_ownerOf_44 (by decide) ?_
      refine lv_iload_n hx hb dX7_ownerOf_46 rfl (lv_at hl 2 rfl) ?_
      refine lv_imul hx hb dX7_ownerOf_47 ?_
      refine lv_bipush (v := (20 : Int32)) hx hb dX7_ownerOf_48 (by decide) ?_
      refine lv_iadd hx hb dX7_ownerOf_50 ?_
      refine lv_iload_n hx hb dX7_ownerOf_51 rfl (lv_at hl 0 rfl) ?_
      refine lv_iadd hx hb dX7_ownerOf_52 ?_
      obtain ⟨hi_5, hf⟩ := hf
      refine va_iald hx hb hK hP 4 0 eM_4 rfl hi_5 dX7_ownerOf_53 ?_
      exact W.iret (v := ((s0.2.1 5) ((((35 : Int32) * p0) + (20 : Int32)) + x3_2).toNatClampNeg)) hx hb hr (fun t ht hW => ⟨((s0.2.1 5) ((((35 : Int32) * p0) + (20 : Int32)) + x3_2).toNatClampNeg), rfl, hf, ht⟩) (fun q h => absurd h List.not_mem_nil) dX7_ownerOf_54
    · have hf := hf.2 c_4
      refine lv_bipush (v := (-9 : Int32)) hx hb dX7_ownerOf_35 (by decide) ?_
      refine lv_goto (tgt := 54) hx hb dX7_ownerOf_37 (by decide) ?_
      exact W.iret (v := (-9 : Int32)) hx hb hr (fun t ht hW => ⟨(-9 : Int32), rfl, hf, ht⟩) (fun q h => absurd h List.not_mem_nil) dX7_ownerOf_54
  · have hf := hf.2 c_3
    refine lv_aload_n hx hb dX7_ownerOf_18 rfl (lv_at hl 1 rfl) ?_
    refine va_get (D := D) (ci := 5) (v := .ref (q0 2)) (C := RX7) (T := TX7) (N := 28) hx hb ht inX7 hown hK hP 0 eM_0 rfl 3 (by decide) (ht _ tw_658) (fun _ h9 => h9) rfl dX7_ownerOf_19 ?_
    refine lv_iload_n hx hb dX7_ownerOf_22 rfl (lv_at hl 3 rfl) ?_
    refine lv_iconst (v := (5 : Int32)) hx hb dX7_ownerOf_23 (by decide) ?_
    refine lv_idiv hx hb dX7_ownerOf_24 (by decide) ?_
    obtain ⟨hi_6, hf⟩ := hf
    refine va_iald hx hb hK hP 2 0 eM_2 rfl hi_6 dX7_ownerOf_25 ?_
    refine lv_goto (tgt := 54) hx hb dX7_ownerOf_26 (by decide) ?_
    exact W.iret (v := ((s0.2.1 3) (p1 / (5 : Int32)).toNatClampNeg)) hx hb hr (fun t ht hW => ⟨((s0.2.1 3) (p1 / (5 : Int32)).toNatClampNeg), rfl, hf, ht⟩) (fun q h => absurd h List.not_mem_nil) dX7_ownerOf_54
def wp_X7_isMonks (p0 : Int32) (s0 : CS) (Q : Int32 → Prop) : Prop := vp_in (p0 / (5 : Int32)) 4 ∧ ∀ x2_2 : Int32, x2_2 = ((s0.2.1 3) (p0 / (5 : Int32)).toNatClampNeg) → ((x2_2 = (-9 : Int32) → Q (0 : Int32)) ∧ (¬ x2_2 = (-9 : Int32) → vp_in x2_2 4 ∧ ((¬ ((s0.2.1 2) x2_2.toNatClampNeg) = (1 : Int32) → Q (0 : Int32)) ∧ (((s0.2.1 2) x2_2.toNatClampNeg) = (1 : Int32) → Q (1 : Int32)))))
set_option maxHeartbeats 4000000 in
set_option maxRecDepth 100000 in
theorem c_X7_isMonks (l : Launch) (D : va_G) (cI cZ cW : ClassId) (q0 : Nat → Nat) (p0 : Int32) (s0 : CS) (Q : Int32 → Prop) (hf : wp_X7_isMonks p0 s0 Q) : Met l yX7_isMonks (wsA yX7_isMonks cX7_isMonks 3 (some .boolean)) ({ frames := 0, cells := 0, slots := 0, locals := 0 }) (PR D cI cZ cW [.ref (q0 0), .int p0] (wM cI cZ q0 s0)) (vp_Si Q) 0 0 (fun _ => False) := by
  refine Met.ofW (cc := cX7_isMonks) (maxL := 3) (ret := (some .boolean)) (by decide) rfl ?_
  intro p e s m args below meth c s₁ B hml hv
  obtain ⟨rfl, hP, hK⟩ := hv
  have hx := B.exec
  have hb := B.bytes
  have hr := B.returns
  have hts := atoms_spec (ws := (wsA yX7_isMonks cX7_isMonks 3 (some .boolean))) B.pre
  have ht : ∀ w ∈ lw_g, w.before _ s = true := fun w h => hts w (List.mem_cons_of_mem _ h)
  have hown : s.vm.findClass RX7 = some m.cls := findClass_of_methodNamed B.named
  have hlocks := B.notSynchronized
  have hl := lv_entry ([.ref (q0 0), .int p0]) (n := 3) (Nat.le_of_ble_eq_true rfl)
  rw [lg_entry_eq]
  generalize (lg_sl ([.ref (q0 0), .int p0]) ++ List.replicate (3 - (lg_sl ([.ref (q0 0), .int p0])).length) Slot.unset).toArray = ls at hl ⊢
  have hl : lv_has ls 3 [(0, .ref (q0 0)), (1, .int p0)] := hl
  unfold wp_X7_isMonks at hf
  refine lv_aload_n hx hb dX7_isMonks_0 rfl (lv_at hl 0 rfl) ?_
  refine va_get (D := D) (ci := 5) (v := .ref (q0 2)) (C := RX7) (T := TX7) (N := 28) hx hb ht inX7 hown hK hP 0 eM_0 rfl 3 (by decide) (ht _ tw_658) (fun _ h9 => h9) rfl dX7_isMonks_1 ?_
  refine lv_iload_n hx hb dX7_isMonks_4 rfl (lv_at hl 1 rfl) ?_
  refine lv_iconst (v := (5 : Int32)) hx hb dX7_isMonks_5 (by decide) ?_
  refine lv_idiv hx hb dX7_isMonks_6 (by decide) ?_
  obtain ⟨hi_1, hf⟩ := hf
  refine va_iald hx hb hK hP 2 0 eM_2 rfl hi_1 dX7_isMonks_7 ?_
  refine lv_topi (fun x2_2 ex2_2 => ?_)
  have hf := hf x2_2 ex2_2
  refine lv_istore_n (lv' := [(2, .int x2_2), (0, .ref (q0 0)), (1, .int p0)]) hx hb dX7_isMonks_8 rfl hl (by decide) rfl (fun ls hl => ?_)
  refine lv_iload_n hx hb dX7_isMonks_9 rfl (lv_at hl 0 rfl) ?_
  refine lv_bipush (v := (-9 : Int32)) hx hb dX7_isMonks_10 (by decide) ?_
  refine lv_icmp_eq (tgt := 29) hx hb dX7_isMonks_12 (by decide) (fun c_3 => ?_) (fun c_3 => ?_)
  · have hf := hf.1 c_3
    refine lv_iconst (v := (0 : Int32)) hx hb dX7_isMonks_29 (by decide) ?_
    exact W.zret (v := (0 : Int32)) hx hb hr rfl (fun t ht hW => ⟨(0 : Int32), rfl, hf, ht⟩) (fun q h => absurd h List.not_mem_nil) dX7_isMonks_30
  · have hf := hf.2 c_3
    refine lv_aload_n hx hb dX7_isMonks_15 rfl (lv_at hl 1 rfl) ?_
    refine va_get (D := D) (ci := 5) (v := .ref (q0 1)) (C := RX7) (T := TX7) (N := 28) hx hb ht inX7 hown hK hP 0 eM_0 rfl 2 (by decide) (ht _ tw_657) (fun _ h9 => h9) rfl dX7_isMonks_16 ?_
    refine lv_iload_n hx hb dX7_isMonks_19 rfl (lv_at hl 0 rfl) ?_
    obtain ⟨hi_4, hf⟩ := hf
    refine va_iald hx hb hK hP 1 0 eM_1 rfl hi_4 dX7_isMonks_20 ?_
    refine lv_iconst (v := (1 : Int32)) hx hb dX7_isMonks_21 (by decide) ?_
    refine lv_icmp_ne (tgt := 29) hx hb dX7_isMonks_22 (by decide) (fun c_5 => ?_) (fun c_5 => ?_)
    · have hf := hf.1 c_5
      refine lv_iconst (v := (0 : Int32)) hx hb dX7_isMonks_29 (by decide) ?_
      exact W.zret (v := (0 : Int32)) hx hb hr rfl (fun t ht hW => ⟨(0 : Int32), rfl, hf, ht⟩) (fun q h => absurd h List.not_mem_nil) dX7_isMonks_30
    · have hf := hf.2 c_5
      refine lv_iconst (v := (1 : Int32)) hx hb dX7_isMonks_25 (by decide) ?_
      refine lv_goto (tgt := 30) hx hb dX7_isMonks_26 (by decide) ?_
      exact W.zret (v := (1 : Int32)) hx hb hr rfl (fun t ht hW => ⟨(1 : Int32), rfl, hf, ht⟩) (fun q h => absurd h List.not_mem_nil) dX7_isMonks_30
def wp_X7_pay (p0 : Int32) (p1 : Int32) (p2 : Int32) (p3 : Int32) (s0 : CS) (Q : CS → Prop) : Prop := vp_in ((((35 : Int32) * p0) + (30 : Int32)) + p1) 70 ∧ vp_in ((((35 : Int32) * p0) + (30 : Int32)) + p1) 70 ∧ ∀ s0_3 : CS, s0_3 = sA s0 5 ((((35 : Int32) * p0) + (30 : Int32)) + p1).toNatClampNeg (((s0.2.1 5) ((((35 : Int32) * p0) + (30 : Int32)) + p1).toNatClampNeg) - p3) → ((p2 = (-9 : Int32) → Q s0_3) ∧ (¬ p2 = (-9 : Int32) → vp_in ((((35 : Int32) * p0) + (30 : Int32)) + p2) 70 ∧ vp_in ((((35 : Int32) * p0) + (30 : Int32)) + p2) 70 ∧ ∀ s0_7 : CS, s0_7 = sA s0_3 5 ((((35 : Int32) * p0) + (30 : Int32)) + p2).toNatClampNeg (((s0_3.2.1 5) ((((35 : Int32) * p0) + (30 : Int32)) + p2).toNatClampNeg) + p3) → Q s0_7))
set_option maxHeartbeats 4000000 in
set_option maxRecDepth 100000 in
theorem c_X7_pay (l : Launch) (D : va_G) (cI cZ cW : ClassId) (q0 : Nat → Nat) (sz : Nat) (p0 : Int32) (p1 : Int32) (p2 : Int32) (p3 : Int32) (s0 : CS) (Q : CS → Prop) (hf : wp_X7_pay p0 p1 p2 p3 s0 Q) : Met l yX7_pay (wsA yX7_pay cX7_pay 5 none) ({ frames := 0, cells := 0, slots := 0, locals := 0 }) (PW D cI cZ cW [.ref (q0 0), .int p0, .int p1, .int p2, .int p3] (wM cI cZ q0 s0) sz) (va_Qv (fun (u : CS) => Q u) (fun u t => va_P D classes (wM cI cZ q0 u) t.heap) (va_A (wM cI cZ q0 s0) sz)) 0 0 (va_A (wM cI cZ q0 s0) sz) := by
  refine Met.ofW (cc := cX7_pay) (maxL := 5) (ret := none) (by decide) rfl ?_
  intro p e s m args below meth c s₁ B hml hv
  obtain ⟨rfl, hsz, hP, hK, hD0⟩ := hv
  have hx := B.exec
  have hb := B.bytes
  have hr := B.returns
  have hts := atoms_spec (ws := (wsA yX7_pay cX7_pay 5 none)) B.pre
  have ht : ∀ w ∈ lw_g, w.before _ s = true := fun w h => hts w (List.mem_cons_of_mem _ h)
  have hown : s.vm.findClass RX7 = some m.cls := findClass_of_methodNamed B.named
  have hlocks := B.notSynchronized
  subst hsz
  have hD := hD0.self (sz := s.heap.size)
  generalize hAe : va_A (wM cI cZ q0 s0) s.heap.size = A at hD ⊢
  have hA : ∀ q : Nat, s.heap.size ≤ q → A q := fun q h => by rw [← hAe]; exact Or.inr h
  have hS : va_S A s.heap s.heap [] := va_S.rf
  have hDk : ∀ w : CS, va_D A (wM cI cZ q0 w) := fun w => D_M hD
  have hl := lv_entry ([.ref (q0 0), .int p0, .int p1, .int p2, .int p3]) (n := 5) (Nat.le_of_ble_eq_true rfl)
  rw [lg_entry_eq]
  generalize (lg_sl ([.ref (q0 0), .int p0, .int p1, .int p2, .int p3]) ++ List.replicate (5 - (lg_sl ([.ref (q0 0), .int p0, .int p1, .int p2, .int p3])).length) Slot.unset).toArray = ls at hl ⊢
  have hl : lv_has ls 5 [(0, .ref (q0 0)), (1, .int p0), (2, .int p1), (3, .int p2), (4, .int p3)] := hl
  unfold wp_X7_pay at hf
  have start : ∀ (H : Heap) (locs : List Loc), va_P D classes (wM cI cZ q0 s0) H → va_D A (wM cI cZ q0 s0) → va_S A s.heap H locs → W p l e (headSpec (wsA yX7_pay cX7_pay 5 none) ({ frames := 0, cells := 0, slots := 0, locals := 0 })).room s m (#[.ref (q0 0), .int p0, .int p1, .int p2, .int p3] : Array Value) below meth c H locs 0 0 (MQ below (va_Qv (fun (u : CS) => Q u) (fun u t => va_P D classes (wM cI cZ q0 u) t.heap) A) (#[.ref (q0 0), .int p0, .int p1, .int p2, .int p3] : Array Value) s 0 0 A) (F0 m 0 ls []) := by
    intro H locs hP hD hS
    refine lv_aload_n hx hb dX7_pay_0 rfl (lv_at hl 0 rfl) ?_
    refine va_get (D := D) (ci := 5) (v := .ref (q0 4)) (C := RX7) (T := TX7) (N := 28) hx hb ht inX7 hown hK hP 0 eM_0 rfl 5 (by decide) (ht _ tw_660) (fun _ h9 => h9) rfl dX7_pay_1 ?_
    refine lv_bipush (v := (35 : Int32)) hx hb dX7_pay_4 (by decide) ?_
    refine lv_iload_n hx hb dX7_pay_6 rfl (lv_at hl 1 rfl) ?_
    refine lv_imul hx hb dX7_pay_7 ?_
    refine lv_bipush (v := (30 : Int32)) hx hb dX7_pay_8 (by decide) ?_
    refine lv_iadd hx hb dX7_pay_10 ?_
    refine lv_iload_n hx hb dX7_pay_11 rfl (lv_at hl 2 rfl) ?_
    refine lv_iadd hx hb dX7_pay_12 ?_
    refine lv_dup2_11 hx hb dX7_pay_13 rfl rfl ?_
    obtain ⟨hi_1, hf⟩ := hf
    refine va_iald hx hb hK hP 4 0 eM_4 rfl hi_1 dX7_pay_14 ?_
    refine lv_iload hx hb dX7_pay_15 (lv_at hl 4 rfl) ?_
    refine lv_isub hx hb dX7_pay_17 ?_
    obtain ⟨hi_2, hf⟩ := hf
    refine va_iast hx hb hK hP hD hS 4 0 eM_4 rfl hi_2 dX7_pay_18 (fun H locs hP hD hS => ?_)
    obtain ⟨s0_3, es0_3⟩ : ∃ y : CS, y = sA s0 5 ((((35 : Int32) * p0) + (30 : Int32)) + p1).toNatClampNeg (((s0.2.1 5) ((((35 : Int32) * p0) + (30 : Int32)) + p1).toNatClampNeg) - p3) := ⟨_, rfl⟩
    have hf := hf s0_3 es0_3
    have hD := hDk s0_3
    have hP : va_P D classes (wM cI cZ q0 s0_3) H := by rw [es0_3]; exact PM_F5 hP
    refine lv_iload_n hx hb dX7_pay_19 rfl (lv_at hl 3 rfl) ?_
    refine lv_bipush (v := (-9 : Int32)) hx hb dX7_pay_20 (by decide) ?_
    refine lv_icmp_eq (tgt := 44) hx hb dX7_pay_22 (by decide) (fun c_4 => ?_) (fun c_4 => ?_)
    · have hf := hf.1 c_4
      exact W.vret hx hb hr (fun t ht hW => ⟨⟨s0_3, rfl, hf, P_heap ht hP⟩, hS.F ht⟩) hS.2.2 dX7_pay_44
    · have hf := hf.2 c_4
      refine lv_aload_n hx hb dX7_pay_25 rfl (lv_at hl 0 rfl) ?_
      refine va_get (D := D) (ci := 5) (v := .ref (q0 4)) (C := RX7) (T := TX7) (N := 28) hx hb ht inX7 hown hK hP 0 eM_0 rfl 5 (by decide) (ht _ tw_660) (fun _ h9 => h9) rfl dX7_pay_26 ?_
      refine lv_bipush (v := (35 : Int32)) hx hb dX7_pay_29 (by decide) ?_
      refine lv_iload_n hx hb dX7_pay_31 rfl (lv_at hl 1 rfl) ?_
      refine lv_imul hx hb dX7_pay_32 ?_
      refine lv_bipush (v := (30 : Int32)) hx hb dX7_pay_33 (by decide) ?_
      refine lv_iadd hx hb dX7_pay_35 ?_
      refine lv_iload_n hx hb dX7_pay_36 rfl (lv_at hl 3 rfl) ?_
      refine lv_iadd hx hb dX7_pay_37 ?_
      refine lv_dup2_11 hx hb dX7_pay_38 rfl rfl ?_
      obtain ⟨hi_5, hf⟩ := hf
      refine va_iald hx hb hK hP 4 0 eM_4 rfl hi_5 dX7_pay_39 ?_
      refine lv_iload hx hb dX7_pay_40 (lv_at hl 4 rfl) ?_
      refine lv_iadd hx hb dX7_pay_42 ?_
      obtain ⟨hi_6, hf⟩ := hf
      refine va_iast hx hb hK hP hD hS 4 0 eM_4 rfl hi_6 dX7_pay_43 (fun H locs hP hD hS => ?_)
      obtain ⟨s0_7, es0_7⟩ : ∃ y : CS, y = sA s0_3 5 ((((35 : Int32) * p0) + (30 : Int32)) + p2).toNatClampNeg (((s0_3.2.1 5) ((((35 : Int32) * p0) + (30 : Int32)) + p2).toNatClampNeg) + p3) := ⟨_, rfl⟩
      have hf := hf s0_7 es0_7
      have hD := hDk s0_7
      have hP : va_P D classes (wM cI cZ q0 s0_7) H := by rw [es0_7]; exact PM_F5 hP
      exact W.vret hx hb hr (fun t ht hW => ⟨⟨s0_7, rfl, hf, P_heap ht hP⟩, hS.F ht⟩) hS.2.2 dX7_pay_44
  exact start s.heap [] hP hD hS
