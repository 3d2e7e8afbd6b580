theorem dX7_estate_0 : decode cX7_estate 0 = .ok (.iconst 0, 1) := by decide +kernel
theorem dX7_estate_1 : decode cX7_estate 1 = .ok (.istore_n 2, 1) := by decide +kernel
theorem dX7_estate_2 : decode cX7_estate 2 = .ok (.iconst 0, 1) := by decide +kernel
theorem dX7_estate_3 : decode cX7_estate 3 = .ok (.istore_n 3, 1) := by decide +kernel
theorem dX7_estate_4 : decode cX7_estate 4 = .ok (.iload_n 3, 1) := by decide +kernel
theorem dX7_estate_5 : decode cX7_estate 5 = .ok (.bipush 20, 2) := by decide +kernel
theorem dX7_estate_7 : decode cX7_estate 7 = .ok (.if_icmp .ge 43, 3) := by decide +kernel
theorem dX7_estate_10 : decode cX7_estate 10 = .ok (.aload_n 0, 1) := by decide +kernel
theorem dX7_estate_11 : decode cX7_estate 11 = .ok (.iconst 0, 1) := by decide +kernel
theorem dX7_estate_12 : decode cX7_estate 12 = .ok (.iload_n 3, 1) := by decide +kernel
theorem dX7_estate_13 : decode cX7_estate 13 = .ok (.invokevirtual 154, 3) := by decide +kernel
theorem dX7_estate_16 : decode cX7_estate 16 = .ok (.istore 4, 2) := by decide +kernel
theorem dX7_estate_18 : decode cX7_estate 18 = .ok (.iload_n 2, 1) := by decide +kernel
theorem dX7_estate_19 : decode cX7_estate 19 = .ok (.iload 4, 2) := by decide +kernel
theorem dX7_estate_21 : decode cX7_estate 21 = .ok (.bipush (-9), 2) := by decide +kernel
theorem dX7_estate_23 : decode cX7_estate 23 = .ok (.if_icmp .eq 18, 3) := by decide +kernel
theorem dX7_estate_26 : decode cX7_estate 26 = .ok (.iload_n 1, 1) := by decide +kernel
theorem dX7_estate_27 : decode cX7_estate 27 = .ok (.iload 4, 2) := by decide +kernel
theorem dX7_estate_29 : decode cX7_estate 29 = .ok (.invokestatic 74, 3) := by decide +kernel
theorem dX7_estate_32 : decode cX7_estate 32 = .ok (.ifCond .eq 9, 3) := by decide +kernel
theorem dX7_estate_35 : decode cX7_estate 35 = .ok (.iconst 1, 1) := by decide +kernel
theorem dX7_estate_36 : decode cX7_estate 36 = .ok (.iload_n 3, 1) := by decide +kernel
theorem dX7_estate_37 : decode cX7_estate 37 = .ok (.ishl, 1) := by decide +kernel
theorem dX7_estate_38 : decode cX7_estate 38 = .ok (.goto 4, 3) := by decide +kernel
theorem dX7_estate_41 : decode cX7_estate 41 = .ok (.iconst 0, 1) := by decide +kernel
theorem dX7_estate_42 : decode cX7_estate 42 = .ok (.ior, 1) := by decide +kernel
theorem dX7_estate_43 : decode cX7_estate 43 = .ok (.istore_n 2, 1) := by decide +kernel
theorem dX7_estate_44 : decode cX7_estate 44 = .ok (.iinc 3 1, 3) := by decide +kernel
theorem dX7_estate_47 : decode cX7_estate 47 = .ok (.goto (-43), 3) := by decide +kernel
theorem dX7_estate_50 : decode cX7_estate 50 = .ok (.iload_n 2, 1) := by decide +kernel
theorem dX7_estate_51 : decode cX7_estate 51 = .ok (.ireturn, 1) := by decide +kernel
theorem dX7_owner_0 : decode cX7_owner 0 = .ok (.aload_n 0, 1) := by decide +kernel
theorem dX7_owner_1 : decode cX7_owner 1 = .ok (.iload_n 1, 1) := by decide +kernel
theorem dX7_owner_2 : decode cX7_owner 2 = .ok (.invokevirtual 157, 3) := by decide +kernel
theorem dX7_owner_5 : decode cX7_owner 5 = .ok (.ifCond .ne 5, 3) := by decide +kernel
theorem dX7_owner_8 : decode cX7_owner 8 = .ok (.iconst (-1), 1) := by decide +kernel
theorem dX7_owner_9 : decode cX7_owner 9 = .ok (.ireturn, 1) := by decide +kernel
theorem dX7_owner_10 : decode cX7_owner 10 = .ok (.iconst 0, 1) := by decide +kernel
theorem dX7_owner_11 : decode cX7_owner 11 = .ok (.istore_n 3, 1) := by decide +kernel
theorem dX7_owner_12 : decode cX7_owner 12 = .ok (.iconst 0, 1) := by decide +kernel
theorem dX7_owner_13 : decode cX7_owner 13 = .ok (.istore 4, 2) := by decide +kernel
theorem dX7_owner_15 : decode cX7_owner 15 = .ok (.iconst 0, 1) := by decide +kernel
theorem dX7_owner_16 : decode cX7_owner 16 = .ok (.istore 5, 2) := by decide +kernel
theorem dX7_owner_18 : decode cX7_owner 18 = .ok (.iload 5, 2) := by decide +kernel
theorem dX7_owner_20 : decode cX7_owner 20 = .ok (.iconst 4, 1) := by decide +kernel
theorem dX7_owner_21 : decode cX7_owner 21 = .ok (.if_icmp .ge 31, 3) := by decide +kernel
theorem dX7_owner_24 : decode cX7_owner 24 = .ok (.iload_n 3, 1) := by decide +kernel
theorem dX7_owner_25 : decode cX7_owner 25 = .ok (.aload_n 0, 1) := by decide +kernel
theorem dX7_owner_26 : decode cX7_owner 26 = .ok (.getfield 13, 3) := by decide +kernel
theorem dX7_owner_29 : decode cX7_owner 29 = .ok (.iload 5, 2) := by decide +kernel
theorem dX7_owner_31 : decode cX7_owner 31 = .ok (.iaload, 1) := by decide +kernel
theorem dX7_owner_32 : decode cX7_owner 32 = .ok (.iload_n 1, 1) := by decide +kernel
theorem dX7_owner_33 : decode cX7_owner 33 = .ok (.if_icmp .ne 10, 3) := by decide +kernel
theorem dX7_owner_36 : decode cX7_owner 36 = .ok (.iconst 1, 1) := by decide +kernel
theorem dX7_owner_37 : decode cX7_owner 37 = .ok (.iload 5, 2) := by decide +kernel
theorem dX7_owner_39 : decode cX7_owner 39 = .ok (.ishl, 1) := by decide +kernel
theorem dX7_owner_40 : decode cX7_owner 40 = .ok (.goto 4, 3) := by decide +kernel
theorem dX7_owner_43 : decode cX7_owner 43 = .ok (.iconst 0, 1) := by decide +kernel
theorem dX7_owner_44 : decode cX7_owner 44 = .ok (.ior, 1) := by decide +kernel
theorem dX7_owner_45 : decode cX7_owner 45 = .ok (.istore_n 3, 1) := by decide +kernel
theorem dX7_owner_46 : decode cX7_owner 46 = .ok (.iinc 5 1, 3) := by decide +kernel
theorem dX7_owner_49 : decode cX7_owner 49 = .ok (.goto (-31), 3) := by decide +kernel
theorem dX7_owner_52 : decode cX7_owner 52 = .ok (.iconst 0, 1) := by decide +kernel
theorem dX7_owner_53 : decode cX7_owner 53 = .ok (.istore 5, 2) := by decide +kernel
theorem dX7_owner_55 : decode cX7_owner 55 = .ok (.iload 5, 2) := by decide +kernel
theorem dX7_owner_57 : decode cX7_owner 57 = .ok (.aload_n 0, 1) := by decide +kernel
theorem dX7_owner_58 : decode cX7_owner 58 = .ok (.getfield 106, 3) := by decide +kernel
theorem dX7_owner_61 : decode cX7_owner 61 = .ok (.if_icmp .ge 36, 3) := by decide +kernel
theorem dX7_owner_64 : decode cX7_owner 64 = .ok (.iload 4, 2) := by decide +kernel
theorem dX7_owner_66 : decode cX7_owner 66 = .ok (.aload_n 0, 1) := by decide +kernel
theorem dX7_owner_67 : decode cX7_owner 67 = .ok (.getfield 19, 3) := by decide +kernel
theorem dX7_owner_70 : decode cX7_owner 70 = .ok (.bipush 20, 2) := by decide +kernel
theorem dX7_owner_72 : decode cX7_owner 72 = .ok (.iload 5, 2) := by decide +kernel
theorem dX7_owner_74 : decode cX7_owner 74 = .ok (.iadd, 1) := by decide +kernel
theorem dX7_owner_75 : decode cX7_owner 75 = .ok (.iaload, 1) := by decide +kernel
theorem dX7_owner_76 : decode cX7_owner 76 = .ok (.iload_n 1, 1) := by decide +kernel
theorem dX7_owner_77 : decode cX7_owner 77 = .ok (.if_icmp .ne 10, 3) := by decide +kernel
theorem dX7_owner_80 : decode cX7_owner 80 = .ok (.iconst 1, 1) := by decide +kernel
theorem dX7_owner_81 : decode cX7_owner 81 = .ok (.iload 5, 2) := by decide +kernel
theorem dX7_owner_83 : decode cX7_owner 83 = .ok (.ishl, 1) := by decide +kernel
theorem dX7_owner_84 : decode cX7_owner 84 = .ok (.goto 4, 3) := by decide +kernel
theorem dX7_owner_87 : decode cX7_owner 87 = .ok (.iconst 0, 1) := by decide +kernel
theorem dX7_owner_88 : decode cX7_owner 88 = .ok (.ior, 1) := by decide +kernel
theorem dX7_owner_89 : decode cX7_owner 89 = .ok (.istore 4, 2) := by decide +kernel
theorem dX7_owner_91 : decode cX7_owner 91 = .ok (.iinc 5 1, 3) := by decide +kernel
theorem dX7_owner_94 : decode cX7_owner 94 = .ok (.goto (-39), 3) := by decide +kernel
theorem dX7_owner_97 : decode cX7_owner 97 = .ok (.iload_n 2, 1) := by decide +kernel
theorem dX7_owner_98 : decode cX7_owner 98 = .ok (.tableswitch 67 0 4 #[34, 41, 51, 53, 56], 34) := by decide +kernel
theorem dX7_owner_132 : decode cX7_owner 132 = .ok (.aload_n 0, 1) := by decide +kernel
theorem dX7_owner_133 : decode cX7_owner 133 = .ok (.getfield 7, 3) := by decide +kernel
theorem dX7_owner_136 : decode cX7_owner 136 = .ok (.iload_n 1, 1) := by decide +kernel
theorem dX7_owner_137 : decode cX7_owner 137 = .ok (.iaload, 1) := by decide +kernel
theorem dX7_owner_138 : decode cX7_owner 138 = .ok (.ireturn, 1) := by decide +kernel
theorem dX7_owner_139 : decode cX7_owner 139 = .ok (.aload_n 0, 1) := by decide +kernel
theorem dX7_owner_140 : decode cX7_owner 140 = .ok (.getfield 19, 3) := by decide +kernel
theorem dX7_owner_143 : decode cX7_owner 143 = .ok (.bipush 30, 2) := by decide +kernel
theorem dX7_owner_145 : decode cX7_owner 145 = .ok (.iload_n 1, 1) := by decide +kernel
theorem dX7_owner_146 : decode cX7_owner 146 = .ok (.iadd, 1) := by decide +kernel
theorem dX7_owner_147 : decode cX7_owner 147 = .ok (.iaload, 1) := by decide +kernel
theorem dX7_owner_148 : decode cX7_owner 148 = .ok (.ireturn, 1) := by decide +kernel
theorem dX7_owner_149 : decode cX7_owner 149 = .ok (.iload_n 3, 1) := by decide +kernel
theorem dX7_owner_150 : decode cX7_owner 150 = .ok (.ireturn, 1) := by decide +kernel
theorem dX7_owner_151 : decode cX7_owner 151 = .ok (.iload 4, 2) := by decide +kernel
theorem dX7_owner_153 : decode cX7_owner 153 = .ok (.ireturn, 1) := by decide +kernel
theorem dX7_owner_154 : decode cX7_owner 154 = .ok (.aload_n 0, 1) := by decide +kernel
theorem dX7_owner_155 : decode cX7_owner 155 = .ok (.iconst 1, 1) := by decide +kernel
theorem dX7_owner_156 : decode cX7_owner 156 = .ok (.iload_n 1, 1) := by decide +kernel
theorem dX7_owner_157 : decode cX7_owner 157 = .ok (.ishl, 1) := by decide +kernel
theorem dX7_owner_158 : decode cX7_owner 158 = .ok (.invokevirtual 160, 3) := by decide +kernel
theorem dX7_owner_161 : decode cX7_owner 161 = .ok (.invokestatic 137, 3) := by decide +kernel
theorem dX7_owner_164 : decode cX7_owner 164 = .ok (.ireturn, 1) := by decide +kernel
theorem dX7_owner_165 : decode cX7_owner 165 = .ok (.bipush (-2), 2) := by decide +kernel
theorem dX7_owner_167 : decode cX7_owner 167 = .ok (.ireturn, 1) := by decide +kernel
theorem dX7_hole_0 : decode cX7_hole 0 = .ok (.aload_n 0, 1) := by decide +kernel
theorem dX7_hole_1 : decode cX7_hole 1 = .ok (.iload_n 1, 1) := by decide +kernel
theorem dX7_hole_2 : decode cX7_hole 2 = .ok (.invokevirtual 163, 3) := by decide +kernel
theorem dX7_hole_5 : decode cX7_hole 5 = .ok (.ifCond .ne 5, 3) := by decide +kernel
theorem dX7_hole_8 : decode cX7_hole 8 = .ok (.iconst (-1), 1) := by decide +kernel
theorem dX7_hole_9 : decode cX7_hole 9 = .ok (.ireturn, 1) := by decide +kernel
theorem dX7_hole_10 : decode cX7_hole 10 = .ok (.iload_n 2, 1) := by decide +kernel
theorem dX7_hole_11 : decode cX7_hole 11 = .ok (.tableswitch 77 0 4 #[33, 40, 50, 60, 67], 33) := by decide +kernel
theorem dX7_hole_44 : decode cX7_hole 44 = .ok (.aload_n 0, 1) := by decide +kernel
theorem dX7_hole_45 : decode cX7_hole 45 = .ok (.getfield 16, 3) := by decide +kernel
theorem dX7_hole_48 : decode cX7_hole 48 = .ok (.iload_n 1, 1) := by decide +kernel
theorem dX7_hole_49 : decode cX7_hole 49 = .ok (.iaload, 1) := by decide +kernel
theorem dX7_hole_50 : decode cX7_hole 50 = .ok (.ireturn, 1) := by decide +kernel
theorem dX7_hole_51 : decode cX7_hole 51 = .ok (.aload_n 0, 1) := by decide +kernel
theorem dX7_hole_52 : decode cX7_hole 52 = .ok (.getfield 19, 3) := by decide +kernel
theorem dX7_hole_55 : decode cX7_hole 55 = .ok (.bipush 20, 2) := by decide +kernel
theorem dX7_hole_57 : decode cX7_hole 57 = .ok (.iload_n 1, 1) := by decide +kernel
theorem dX7_hole_58 : decode cX7_hole 58 = .ok (.iadd, 1) := by decide +kernel
theorem dX7_hole_59 : decode cX7_hole 59 = .ok (.iaload, 1) := by decide +kernel
theorem dX7_hole_60 : decode cX7_hole 60 = .ok (.ireturn, 1) := by decide +kernel
theorem dX7_hole_61 : decode cX7_hole 61 = .ok (.aload_n 0, 1) := by decide +kernel
theorem dX7_hole_62 : decode cX7_hole 62 = .ok (.getfield 19, 3) := by decide +kernel
theorem dX7_hole_65 : decode cX7_hole 65 = .ok (.bipush 25, 2) := by decide +kernel
theorem dX7_hole_67 : decode cX7_hole 67 = .ok (.iload_n 1, 1) := by decide +kernel
theorem dX7_hole_68 : decode cX7_hole 68 = .ok (.iadd, 1) := by decide +kernel
theorem dX7_hole_69 : decode cX7_hole 69 = .ok (.iaload, 1) := by decide +kernel
theorem dX7_hole_70 : decode cX7_hole 70 = .ok (.ireturn, 1) := by decide +kernel
theorem dX7_hole_71 : decode cX7_hole 71 = .ok (.aload_n 0, 1) := by decide +kernel
theorem dX7_hole_72 : decode cX7_hole 72 = .ok (.iconst 0, 1) := by decide +kernel
theorem dX7_hole_73 : decode cX7_hole 73 = .ok (.iload_n 1, 1) := by decide +kernel
theorem dX7_hole_74 : decode cX7_hole 74 = .ok (.invokevirtual 119, 3) := by decide +kernel
theorem dX7_hole_77 : decode cX7_hole 77 = .ok (.ireturn, 1) := by decide +kernel
theorem dX7_hole_78 : decode cX7_hole 78 = .ok (.aload_n 0, 1) := by decide +kernel
theorem dX7_hole_79 : decode cX7_hole 79 = .ok (.iconst 0, 1) := by decide +kernel
theorem dX7_hole_80 : decode cX7_hole 80 = .ok (.iload_n 1, 1) := by decide +kernel
theorem dX7_hole_81 : decode cX7_hole 81 = .ok (.invokevirtual 119, 3) := by decide +kernel
theorem dX7_hole_84 : decode cX7_hole 84 = .ok (.invokestatic 137, 3) := by decide +kernel
theorem dX7_hole_87 : decode cX7_hole 87 = .ok (.ireturn, 1) := by decide +kernel
theorem dX7_hole_88 : decode cX7_hole 88 = .ok (.bipush (-2), 2) := by decide +kernel
theorem dX7_hole_90 : decode cX7_hole 90 = .ok (.ireturn, 1) := by decide +kernel
theorem dX7_cell_0 : decode cX7_cell 0 = .ok (.iload_n 1, 1) := by decide +kernel
theorem dX7_cell_1 : decode cX7_cell 1 = .ok (.invokestatic 166, 3) := by decide +kernel
theorem dX7_cell_4 : decode cX7_cell 4 = .ok (.ifCond .ne 5, 3) := by decide +kernel
theorem dX7_cell_7 : decode cX7_cell 7 = .ok (.iconst (-1), 1) := by decide +kernel
theorem dX7_cell_8 : decode cX7_cell 8 = .ok (.ireturn, 1) := by decide +kernel
theorem dX7_cell_9 : decode cX7_cell 9 = .ok (.aload_n 0, 1) := by decide +kernel
theorem dX7_cell_10 : decode cX7_cell 10 = .ok (.getfield 19, 3) := by decide +kernel
theorem dX7_cell_13 : decode cX7_cell 13 = .ok (.iload_n 1, 1) := by decide +kernel
theorem dX7_cell_14 : decode cX7_cell 14 = .ok (.iaload, 1) := by decide +kernel
theorem dX7_cell_15 : decode cX7_cell 15 = .ok (.istore_n 3, 1) := by decide +kernel
theorem dX7_cell_16 : decode cX7_cell 16 = .ok (.iload_n 2, 1) := by decide +kernel
theorem dX7_cell_17 : decode cX7_cell 17 = .ok (.tableswitch 69 0 2 #[27, 49, 62], 27) := by decide +kernel
theorem dX7_cell_44 : decode cX7_cell 44 = .ok (.iload_n 3, 1) := by decide +kernel
theorem dX7_cell_45 : decode cX7_cell 45 = .ok (.bipush 7, 2) := by decide +kernel
theorem dX7_cell_47 : decode cX7_cell 47 = .ok (.if_icmp .ne 7, 3) := by decide +kernel
theorem dX7_cell_50 : decode cX7_cell 50 = .ok (.iconst 0, 1) := by decide +kernel
theorem dX7_cell_51 : decode cX7_cell 51 = .ok (.goto 14, 3) := by decide +kernel
theorem dX7_cell_54 : decode cX7_cell 54 = .ok (.iload_n 3, 1) := by decide +kernel
theorem dX7_cell_55 : decode cX7_cell 55 = .ok (.bipush 8, 2) := by decide +kernel
theorem dX7_cell_57 : decode cX7_cell 57 = .ok (.if_icmp .ne 7, 3) := by decide +kernel
theorem dX7_cell_60 : decode cX7_cell 60 = .ok (.iconst 2, 1) := by decide +kernel
theorem dX7_cell_61 : decode cX7_cell 61 = .ok (.goto 4, 3) := by decide +kernel
theorem dX7_cell_64 : decode cX7_cell 64 = .ok (.iconst 1, 1) := by decide +kernel
theorem dX7_cell_65 : decode cX7_cell 65 = .ok (.ireturn, 1) := by decide +kernel
theorem dX7_cell_66 : decode cX7_cell 66 = .ok (.iload_n 3, 1) := by decide +kernel
theorem dX7_cell_67 : decode cX7_cell 67 = .ok (.bipush 7, 2) := by decide +kernel
theorem dX7_cell_69 : decode cX7_cell 69 = .ok (.if_icmp .ge 7, 3) := by decide +kernel
theorem dX7_cell_72 : decode cX7_cell 72 = .ok (.iload_n 3, 1) := by decide +kernel
theorem dX7_cell_73 : decode cX7_cell 73 = .ok (.goto 5, 3) := by decide +kernel
theorem dX7_cell_76 : decode cX7_cell 76 = .ok (.bipush (-9), 2) := by decide +kernel
theorem dX7_cell_78 : decode cX7_cell 78 = .ok (.ireturn, 1) := by decide +kernel
theorem dX7_cell_79 : decode cX7_cell 79 = .ok (.aload_n 0, 1) := by decide +kernel
theorem dX7_cell_80 : decode cX7_cell 80 = .ok (.iconst 0, 1) := by decide +kernel
theorem dX7_cell_81 : decode cX7_cell 81 = .ok (.iload_n 1, 1) := by decide +kernel
theorem dX7_cell_82 : decode cX7_cell 82 = .ok (.invokevirtual 154, 3) := by decide +kernel
theorem dX7_cell_85 : decode cX7_cell 85 = .ok (.ireturn, 1) := by decide +kernel
theorem dX7_cell_86 : decode cX7_cell 86 = .ok (.bipush (-2), 2) := by decide +kernel
theorem dX7_cell_88 : decode cX7_cell 88 = .ok (.ireturn, 1) := by decide +kernel
theorem dX7_keepAct_0 : decode cX7_keepAct 0 = .ok (.iconst 0, 1) := by decide +kernel
theorem dX7_keepAct_1 : decode cX7_keepAct 1 = .ok (.istore_n 1, 1) := by decide +kernel
theorem dX7_keepAct_2 : decode cX7_keepAct 2 = .ok (.iload_n 1, 1) := by decide +kernel
theorem dX7_keepAct_3 : decode cX7_keepAct 3 = .ok (.bipush 35, 2) := by decide +kernel
theorem dX7_keepAct_5 : decode cX7_keepAct 5 = .ok (.if_icmp .ge 29, 3) := by decide +kernel
theorem dX7_keepAct_8 : decode cX7_keepAct 8 = .ok (.aload_n 0, 1) := by decide +kernel
theorem dX7_keepAct_9 : decode cX7_keepAct 9 = .ok (.getfield 34, 3) := by decide +kernel
theorem dX7_keepAct_12 : decode cX7_keepAct 12 = .ok (.bipush 35, 2) := by decide +kernel
theorem dX7_keepAct_14 : decode cX7_keepAct 14 = .ok (.aload_n 0, 1) := by decide +kernel
theorem dX7_keepAct_15 : decode cX7_keepAct 15 = .ok (.getfield 169, 3) := by decide +kernel
theorem dX7_keepAct_18 : decode cX7_keepAct 18 = .ok (.imul, 1) := by decide +kernel
theorem dX7_keepAct_19 : decode cX7_keepAct 19 = .ok (.iload_n 1, 1) := by decide +kernel
theorem dX7_keepAct_20 : decode cX7_keepAct 20 = .ok (.iadd, 1) := by decide +kernel
theorem dX7_keepAct_21 : decode cX7_keepAct 21 = .ok (.aload_n 0, 1) := by decide +kernel
theorem dX7_keepAct_22 : decode cX7_keepAct 22 = .ok (.getfield 19, 3) := by decide +kernel
theorem dX7_keepAct_25 : decode cX7_keepAct 25 = .ok (.iload_n 1, 1) := by decide +kernel
theorem dX7_keepAct_26 : decode cX7_keepAct 26 = .ok (.iaload, 1) := by decide +kernel
theorem dX7_keepAct_27 : decode cX7_keepAct 27 = .ok (.iastore, 1) := by decide +kernel
theorem dX7_keepAct_28 : decode cX7_keepAct 28 = .ok (.iinc 1 1, 3) := by decide +kernel
theorem dX7_keepAct_31 : decode cX7_keepAct 31 = .ok (.goto (-29), 3) := by decide +kernel
theorem dX7_keepAct_34 : decode cX7_keepAct 34 = .ok (.aload_n 0, 1) := by decide +kernel
theorem dX7_keepAct_35 : decode cX7_keepAct 35 = .ok (.aload_n 0, 1) := by decide +kernel
theorem dX7_keepAct_36 : decode cX7_keepAct 36 = .ok (.getfield 169, 3) := by decide +kernel
theorem dX7_keepAct_39 : decode cX7_keepAct 39 = .ok (.iconst 1, 1) := by decide +kernel
theorem dX7_keepAct_40 : decode cX7_keepAct 40 = .ok (.iadd, 1) := by decide +kernel
theorem dX7_keepAct_41 : decode cX7_keepAct 41 = .ok (.bipush 14, 2) := by decide +kernel
theorem dX7_keepAct_43 : decode cX7_keepAct 43 = .ok (.irem, 1) := by decide +kernel
theorem dX7_keepAct_44 : decode cX7_keepAct 44 = .ok (.putfield 169, 3) := by decide +kernel
theorem dX7_keepAct_47 : decode cX7_keepAct 47 = .ok (.aload_n 0, 1) := by decide +kernel
theorem dX7_keepAct_48 : decode cX7_keepAct 48 = .ok (.aload_n 0, 1) := by decide +kernel
theorem dX7_keepAct_49 : decode cX7_keepAct 49 = .ok (.getfield 109, 3) := by decide +kernel
theorem dX7_keepAct_52 : decode cX7_keepAct 52 = .ok (.bipush 14, 2) := by decide +kernel
theorem dX7_keepAct_54 : decode cX7_keepAct 54 = .ok (.if_icmp .ge 12, 3) := by decide +kernel
theorem dX7_keepAct_57 : decode cX7_keepAct 57 = .ok (.aload_n 0, 1) := by decide +kernel
theorem dX7_keepAct_58 : decode cX7_keepAct 58 = .ok (.getfield 109, 3) := by decide +kernel
theorem dX7_keepAct_61 : decode cX7_keepAct 61 = .ok (.iconst 1, 1) := by decide +kernel
theorem dX7_keepAct_62 : decode cX7_keepAct 62 = .ok (.iadd, 1) := by decide +kernel
theorem dX7_keepAct_63 : decode cX7_keepAct 63 = .ok (.goto 5, 3) := by decide +kernel
theorem dX7_keepAct_66 : decode cX7_keepAct 66 = .ok (.bipush 14, 2) := by decide +kernel
theorem dX7_keepAct_68 : decode cX7_keepAct 68 = .ok (.putfield 109, 3) := by decide +kernel
theorem dX7_keepAct_71 : decode cX7_keepAct 71 = .ok (.return_, 1) := by decide +kernel
theorem dX7_day_0 : decode cX7_day 0 = .ok (.aload_n 0, 1) := by decide +kernel
theorem dX7_day_1 : decode cX7_day 1 = .ok (.invokevirtual 172, 3) := by decide +kernel
theorem dX7_day_4 : decode cX7_day 4 = .ok (.aload_n 0, 1) := by decide +kernel
theorem dX7_day_5 : decode cX7_day 5 = .ok (.iconst 0, 1) := by decide +kernel
theorem dX7_day_6 : decode cX7_day 6 = .ok (.invokevirtual 175, 3) := by decide +kernel
theorem dX7_day_9 : decode cX7_day 9 = .ok (.ireturn, 1) := by decide +kernel
theorem dX7_canEat_0 : decode cX7_canEat 0 = .ok (.aload_n 0, 1) := by decide +kernel
theorem dX7_canEat_1 : decode cX7_canEat 1 = .ok (.iload_n 2, 1) := by decide +kernel
theorem dX7_canEat_2 : decode cX7_canEat 2 = .ok (.invokevirtual 157, 3) := by decide +kernel
theorem dX7_canEat_5 : decode cX7_canEat 5 = .ok (.ifCond .eq 30, 3) := by decide +kernel
theorem dX7_canEat_8 : decode cX7_canEat 8 = .ok (.iload_n 3, 1) := by decide +kernel
theorem dX7_canEat_9 : decode cX7_canEat 9 = .ok (.invokestatic 166, 3) := by decide +kernel
theorem dX7_canEat_12 : decode cX7_canEat 12 = .ok (.ifCond .eq 23, 3) := by decide +kernel
theorem dX7_canEat_15 : decode cX7_canEat 15 = .ok (.aload_n 0, 1) := by decide +kernel
theorem dX7_canEat_16 : decode cX7_canEat 16 = .ok (.getfield 19, 3) := by decide +kernel
theorem dX7_canEat_19 : decode cX7_canEat 19 = .ok (.bipush 35, 2) := by decide +kernel
theorem dX7_canEat_21 : decode cX7_canEat 21 = .ok (.iload_n 1, 1) := by decide +kernel
theorem dX7_canEat_22 : decode cX7_canEat 22 = .ok (.imul, 1) := by decide +kernel
theorem dX7_canEat_23 : decode cX7_canEat 23 = .ok (.iload_n 3, 1) := by decide +kernel
theorem dX7_canEat_24 : decode cX7_canEat 24 = .ok (.iadd, 1) := by decide +kernel
theorem dX7_canEat_25 : decode cX7_canEat 25 = .ok (.iaload, 1) := by decide +kernel
theorem dX7_canEat_26 : decode cX7_canEat 26 = .ok (.bipush 8, 2) := by decide +kernel
theorem dX7_canEat_28 : decode cX7_canEat 28 = .ok (.if_icmp .eq 7, 3) := by decide +kernel
theorem dX7_canEat_31 : decode cX7_canEat 31 = .ok (.iconst 1, 1) := by decide +kernel
theorem dX7_canEat_32 : decode cX7_canEat 32 = .ok (.goto 4, 3) := by decide +kernel
theorem dX7_canEat_35 : decode cX7_canEat 35 = .ok (.iconst 0, 1) := by decide +kernel
theorem dX7_canEat_36 : decode cX7_canEat 36 = .ok (.ireturn, 1) := by decide +kernel
theorem dX7_eatOn_0 : decode cX7_eatOn 0 = .ok (.aload_n 0, 1) := by decide +kernel
theorem dX7_eatOn_1 : decode cX7_eatOn 1 = .ok (.iload_n 1, 1) := by decide +kernel
theorem dX7_eatOn_2 : decode cX7_eatOn 2 = .ok (.iload_n 3, 1) := by decide +kernel
theorem dX7_eatOn_3 : decode cX7_eatOn 3 = .ok (.invokevirtual 154, 3) := by decide +kernel
theorem dX7_eatOn_6 : decode cX7_eatOn 6 = .ok (.istore 4, 2) := by decide +kernel
theorem dX7_eatOn_8 : decode cX7_eatOn 8 = .ok (.aload_n 0, 1) := by decide +kernel
theorem dX7_eatOn_9 : decode cX7_eatOn 9 = .ok (.getfield 19, 3) := by decide +kernel
theorem dX7_eatOn_12 : decode cX7_eatOn 12 = .ok (.bipush 35, 2) := by decide +kernel
theorem dX7_eatOn_14 : decode cX7_eatOn 14 = .ok (.iload_n 1, 1) := by decide +kernel
theorem dX7_eatOn_15 : decode cX7_eatOn 15 = .ok (.imul, 1) := by decide +kernel
theorem dX7_eatOn_16 : decode cX7_eatOn 16 = .ok (.iload_n 3, 1) := by decide +kernel
theorem dX7_eatOn_17 : decode cX7_eatOn 17 = .ok (.iadd, 1) := by decide +kernel
theorem dX7_eatOn_18 : decode cX7_eatOn 18 = .ok (.iaload, 1) := by decide +kernel
theorem dX7_eatOn_19 : decode cX7_eatOn 19 = .ok (.istore 5, 2) := by decide +kernel
theorem dX7_eatOn_21 : decode cX7_eatOn 21 = .ok (.iload 4, 2) := by decide +kernel
theorem dX7_eatOn_23 : decode cX7_eatOn 23 = .ok (.iload_n 2, 1) := by decide +kernel
theorem dX7_eatOn_24 : decode cX7_eatOn 24 = .ok (.if_icmp .eq 20, 3) := by decide +kernel
theorem dX7_eatOn_27 : decode cX7_eatOn 27 = .ok (.iload 5, 2) := by decide +kernel
theorem dX7_eatOn_29 : decode cX7_eatOn 29 = .ok (.bipush 7, 2) := by decide +kernel
theorem dX7_eatOn_31 : decode cX7_eatOn 31 = .ok (.if_icmp .ne 17, 3) := by decide +kernel
theorem dX7_eatOn_34 : decode cX7_eatOn 34 = .ok (.aload_n 0, 1) := by decide +kernel
theorem dX7_eatOn_35 : decode cX7_eatOn 35 = .ok (.getfield 7, 3) := by decide +kernel
theorem dX7_eatOn_38 : decode cX7_eatOn 38 = .ok (.iload_n 2, 1) := by decide +kernel
theorem dX7_eatOn_39 : decode cX7_eatOn 39 = .ok (.iaload, 1) := by decide +kernel
theorem dX7_eatOn_40 : decode cX7_eatOn 40 = .ok (.iconst 2, 1) := by decide +kernel
theorem dX7_eatOn_41 : decode cX7_eatOn 41 = .ok (.if_icmp .ne 7, 3) := by decide +kernel
theorem dX7_eatOn_44 : decode cX7_eatOn 44 = .ok (.iconst 1, 1) := by decide +kernel
theorem dX7_eatOn_45 : decode cX7_eatOn 45 = .ok (.goto 4, 3) := by decide +kernel
theorem dX7_eatOn_48 : decode cX7_eatOn 48 = .ok (.iconst 0, 1) := by decide +kernel
theorem dX7_eatOn_49 : decode cX7_eatOn 49 = .ok (.istore 6, 2) := by decide +kernel
theorem dX7_eatOn_51 : decode cX7_eatOn 51 = .ok (.iload 6, 2) := by decide +kernel
theorem dX7_eatOn_53 : decode cX7_eatOn 53 = .ok (.ifCond .ne 12, 3) := by decide +kernel
theorem dX7_eatOn_56 : decode cX7_eatOn 56 = .ok (.aload_n 0, 1) := by decide +kernel
theorem dX7_eatOn_57 : decode cX7_eatOn 57 = .ok (.iload_n 1, 1) := by decide +kernel
theorem dX7_eatOn_58 : decode cX7_eatOn 58 = .ok (.iload_n 2, 1) := by decide +kernel
theorem dX7_eatOn_59 : decode cX7_eatOn 59 = .ok (.iload 4, 2) := by decide +kernel
theorem dX7_eatOn_61 : decode cX7_eatOn 61 = .ok (.iconst 1, 1) := by decide +kernel
theorem dX7_eatOn_62 : decode cX7_eatOn 62 = .ok (.invokevirtual 133, 3) := by decide +kernel
theorem dX7_eatOn_65 : decode cX7_eatOn 65 = .ok (.aload_n 0, 1) := by decide +kernel
theorem dX7_eatOn_66 : decode cX7_eatOn 66 = .ok (.getfield 19, 3) := by decide +kernel
theorem dX7_eatOn_69 : decode cX7_eatOn 69 = .ok (.bipush 35, 2) := by decide +kernel
theorem dX7_eatOn_71 : decode cX7_eatOn 71 = .ok (.iload_n 1, 1) := by decide +kernel
theorem dX7_eatOn_72 : decode cX7_eatOn 72 = .ok (.imul, 1) := by decide +kernel
theorem dX7_eatOn_73 : decode cX7_eatOn 73 = .ok (.iload_n 3, 1) := by decide +kernel
theorem dX7_eatOn_74 : decode cX7_eatOn 74 = .ok (.iadd, 1) := by decide +kernel
theorem dX7_eatOn_75 : decode cX7_eatOn 75 = .ok (.bipush 8, 2) := by decide +kernel
theorem dX7_eatOn_77 : decode cX7_eatOn 77 = .ok (.iastore, 1) := by decide +kernel
theorem dX7_eatOn_78 : decode cX7_eatOn 78 = .ok (.iload 5, 2) := by decide +kernel
theorem dX7_eatOn_80 : decode cX7_eatOn 80 = .ok (.bipush 7, 2) := by decide +kernel
theorem dX7_eatOn_82 : decode cX7_eatOn 82 = .ok (.if_icmp .eq 20, 3) := by decide +kernel
theorem dX7_eatOn_85 : decode cX7_eatOn 85 = .ok (.aload_n 0, 1) := by decide +kernel
theorem dX7_eatOn_86 : decode cX7_eatOn 86 = .ok (.iload_n 1, 1) := by decide +kernel
theorem dX7_eatOn_87 : decode cX7_eatOn 87 = .ok (.iload 5, 2) := by decide +kernel
theorem dX7_eatOn_89 : decode cX7_eatOn 89 = .ok (.invokevirtual 119, 3) := by decide +kernel
theorem dX7_eatOn_92 : decode cX7_eatOn 92 = .ok (.ifCond .ne 10, 3) := by decide +kernel
theorem dX7_eatOn_95 : decode cX7_eatOn 95 = .ok (.aload_n 0, 1) := by decide +kernel
theorem dX7_eatOn_96 : decode cX7_eatOn 96 = .ok (.iload_n 1, 1) := by decide +kernel
theorem dX7_eatOn_97 : decode cX7_eatOn 97 = .ok (.iload 5, 2) := by decide +kernel
theorem dX7_eatOn_99 : decode cX7_eatOn 99 = .ok (.invokevirtual 140, 3) := by decide +kernel
theorem dX7_eatOn_102 : decode cX7_eatOn 102 = .ok (.iload 4, 2) := by decide +kernel
theorem dX7_eatOn_104 : decode cX7_eatOn 104 = .ok (.ireturn, 1) := by decide +kernel
theorem dX7_eat_0 : decode cX7_eat 0 = .ok (.aload_n 0, 1) := by decide +kernel
theorem dX7_eat_1 : decode cX7_eat 1 = .ok (.iload_n 1, 1) := by decide +kernel
theorem dX7_eat_2 : decode cX7_eat 2 = .ok (.invokevirtual 157, 3) := by decide +kernel
theorem dX7_eat_5 : decode cX7_eat 5 = .ok (.ifCond .eq 10, 3) := by decide +kernel
theorem dX7_eat_8 : decode cX7_eat 8 = .ok (.iload_n 2, 1) := by decide +kernel
theorem dX7_eat_9 : decode cX7_eat 9 = .ok (.invokestatic 166, 3) := by decide +kernel
theorem dX7_eat_12 : decode cX7_eat 12 = .ok (.ifCond .ne 5, 3) := by decide +kernel
theorem dX7_eat_15 : decode cX7_eat 15 = .ok (.iconst (-1), 1) := by decide +kernel
theorem dX7_eat_16 : decode cX7_eat 16 = .ok (.ireturn, 1) := by decide +kernel
theorem dX7_eat_17 : decode cX7_eat 17 = .ok (.aload_n 0, 1) := by decide +kernel
theorem dX7_eat_18 : decode cX7_eat 18 = .ok (.iconst 0, 1) := by decide +kernel
theorem dX7_eat_19 : decode cX7_eat 19 = .ok (.iload_n 1, 1) := by decide +kernel
theorem dX7_eat_20 : decode cX7_eat 20 = .ok (.iload_n 2, 1) := by decide +kernel
theorem dX7_eat_21 : decode cX7_eat 21 = .ok (.invokevirtual 178, 3) := by decide +kernel
theorem dX7_eat_24 : decode cX7_eat 24 = .ok (.ifCond .ne 6, 3) := by decide +kernel
theorem dX7_eat_27 : decode cX7_eat 27 = .ok (.bipush (-3), 2) := by decide +kernel
theorem dX7_eat_29 : decode cX7_eat 29 = .ok (.ireturn, 1) := by decide +kernel
theorem dX7_eat_30 : decode cX7_eat 30 = .ok (.aload_n 0, 1) := by decide +kernel
theorem dX7_eat_31 : decode cX7_eat 31 = .ok (.invokevirtual 172, 3) := by decide +kernel
theorem dX7_eat_34 : decode cX7_eat 34 = .ok (.aload_n 0, 1) := by decide +kernel
theorem dX7_eat_35 : decode cX7_eat 35 = .ok (.iconst 0, 1) := by decide +kernel
theorem dX7_eat_36 : decode cX7_eat 36 = .ok (.iload_n 1, 1) := by decide +kernel
theorem dX7_eat_37 : decode cX7_eat 37 = .ok (.iload_n 2, 1) := by decide +kernel
theorem dX7_eat_38 : decode cX7_eat 38 = .ok (.invokevirtual 182, 3) := by decide +kernel
theorem dX7_eat_41 : decode cX7_eat 41 = .ok (.ireturn, 1) := by decide +kernel
def B_X7_estate_42 (G4 : (Int32 × Int32 × Int32) → Prop) (s0 : CS) (x1 : Int32) (x3 : Int32) (t0 : Int32) (t1 : Int32) (Q : Int32 → Prop) : Prop := ∀ x2_1 : Int32, x2_1 = (t1 ||| t0) → ∀ x3_2 : Int32, x3_2 = x3 + (1 : Int32) → G4 (x1, x2_1, x3_2)
def B_X7_estate_41 (G4 : (Int32 × Int32 × Int32) → Prop) (s0 : CS) (x1 : Int32) (x3 : Int32) (t0 : Int32) (Q : Int32 → Prop) : Prop := B_X7_estate_42 G4 s0 x1 x3 (0 : Int32) t0 Q
def LB_X7_estate_4 (G4 : (Int32 × Int32 × Int32) → Prop) (s0 : CS) (x1 : Int32) (x2 : Int32) (x3 : Int32) (Q : Int32 → Prop) : Prop := (((20 : Int32) ≤ x3 → Q x2) ∧ (¬ (20 : Int32) ≤ x3 → wp_X7_ownerOf (0 : Int32) x3 s0 (fun r_4 => ((r_4 = (-9 : Int32) → B_X7_estate_41 G4 s0 x1 x3 x2 Q) ∧ (¬ r_4 = (-9 : Int32) → wp_X7_has x1 r_4 (fun r_6 => ((r_6 = 0 → B_X7_estate_41 G4 s0 x1 x3 x2 Q) ∧ (¬ r_6 = 0 → B_X7_estate_42 G4 s0 x1 x3 ((1 : Int32) <<< (x3 &&& 31)) x2 Q))))))))
def B_X7_estate_4 (s0 : CS) (x1 : Int32) (x2 : Int32) (x3 : Int32) (Q : Int32 → Prop) : Prop := LOOP (fun (G4 : (Int32 × Int32 × Int32) → Prop) z => LB_X7_estate_4 G4 s0 z.1 z.2.1 z.2.2 Q) (x1, x2, x3)
def wp_X7_estate (p0 : Int32) (s0 : CS) (Q : Int32 → Prop) : Prop := B_X7_estate_4 s0 p0 (0 : Int32) (0 : Int32) Q
set_option maxHeartbeats 4000000 in
set_option maxRecDepth 100000 in
theorem c_X7_estate (l : Launch) (D : va_G) (cI cZ cW : ClassId) (q0 : Nat → Nat) (p0 : Int32) (s0 : CS) (Q : Int32 → Prop) (hf : wp_X7_estate p0 s0 Q) : Met l yX7_estate (wsA yX7_estate cX7_estate 5 (some .int)) ({ frames := 1, cells := 0, slots := 0, locals := 23 }) (PR D cI cZ cW [.ref (q0 0), .int p0] (wM cI cZ q0 s0)) (vp_Si Q) 0 0 (fun _ => False) := by
  refine Met.ofW (cc := cX7_estate) (maxL := 5) (ret := (some .int)) (by decide) rfl ?_
  intro p e s m args below meth c s₁ B hml hv
  obtain ⟨rfl, hP, hK⟩ := hv
  have hx := B.exec
  have hb := B.bytes
  have hr := B.returns
  have hts := atoms_spec (ws := (wsA yX7_estate cX7_estate 5 (some .int))) B.pre
  have ht : ∀ w ∈ lw_g, w.before _ s = true := fun w h => hts w (List.mem_cons_of_mem _ h)
  have hown : s.vm.findClass RX7 = some m.cls := findClass_of_methodNamed B.named
  have hlocks := B.notSynchronized
  have hl := lv_entry ([.ref (q0 0), .int p0]) (n := 5) (Nat.le_of_ble_eq_true rfl)
  rw [lg_entry_eq]
  generalize (lg_sl ([.ref (q0 0), .int p0]) ++ List.replicate (5 - (lg_sl ([.ref (q0 0), .int p0])).length) Slot.unset).toArray = ls at hl ⊢
  have hl : lv_has ls 5 [(0, .ref (q0 0)), (1, .int p0)] := hl
  unfold wp_X7_estate at hf
  have k_4 : ∀ (x1 : Int32) (x2 : Int32) (x3 : Int32) (ls : Array Slot), B_X7_estate_4 s0 x1 x2 x3 Q → lv_has ls 5 [(0, .ref (q0 0)), (1, .int x1), (2, .int x2), (3, .int x3)] → W p l e (headSpec (wsA yX7_estate cX7_estate 5 (some .int)) ({ frames := 1, cells := 0, slots := 0, locals := 23 })).room s m (#[.ref (q0 0), .int p0] : Array Value) below meth c s.heap [] 0 0 (MQ below (vp_Si Q) (#[.ref (q0 0), .int p0] : Array Value) s 0 0 (fun _ => False)) (F0 m 4 ls []) := by
    intro x1 x2 x3 ls hf hl
    unfold B_X7_estate_4 at hf
    obtain ⟨I_4, ⟨n0_4, hI0_4⟩, hst_4⟩ := hf
    have main_4 : ∀ (n : Nat) (x1 : Int32) (x2 : Int32) (x3 : Int32) (ls : Array Slot), I_4 n (x1, x2, x3) → lv_has ls 5 [(0, .ref (q0 0)), (1, .int x1), (2, .int x2), (3, .int x3)] → W p l e (headSpec (wsA yX7_estate cX7_estate 5 (some .int)) ({ frames := 1, cells := 0, slots := 0, locals := 23 })).room s m (#[.ref (q0 0), .int p0] : Array Value) below meth c s.heap [] 0 0 (MQ below (vp_Si Q) (#[.ref (q0 0), .int p0] : Array Value) s 0 0 (fun _ => False)) (F0 m 4 ls []) := by
      intro n
      induction n using Nat.strongRecOn with
      | _ n_4 ih_4 =>
      intro x1 x2 x3 ls hI hl
      have hf : LB_X7_estate_4 (fun z => ∃ k, k < n_4 ∧ I_4 k z) s0 x1 x2 x3 Q := hst_4 n_4 (x1, x2, x3) hI
      have hG_4 : ∀ (x1 : Int32) (x2 : Int32) (x3 : Int32) (ls : Array Slot), (∃ k, k < n_4 ∧ I_4 k (x1, x2, x3)) → lv_has ls 5 [(0, .ref (q0 0)), (1, .int x1), (2, .int x2), (3, .int x3)] → W p l e (headSpec (wsA yX7_estate cX7_estate 5 (some .int)) ({ frames := 1, cells := 0, slots := 0, locals := 23 })).room s m (#[.ref (q0 0), .int p0] : Array Value) below meth c s.heap [] 0 0 (MQ below (vp_Si Q) (#[.ref (q0 0), .int p0] : Array Value) s 0 0 (fun _ => False)) (F0 m 4 ls []) := by
        rintro x1 x2 x3 ls ⟨k, hk, hI⟩ hl
        exact ih_4 k hk x1 x2 x3 ls hI hl
      unfold LB_X7_estate_4 at hf
      have k_42 : ∀ (x1 : Int32) (x3 : Int32) (t0 : Int32) (t1 : Int32) (ls : Array Slot), B_X7_estate_42 (fun z => ∃ k, k < n_4 ∧ I_4 k z) s0 x1 x3 t0 t1 Q → lv_has ls 5 [(0, .ref (q0 0)), (1, .int x1), (3, .int x3)] → W p l e (headSpec (wsA yX7_estate cX7_estate 5 (some .int)) ({ frames := 1, cells := 0, slots := 0, locals := 23 })).room s m (#[.ref (q0 0), .int p0] : Array Value) below meth c s.heap [] 0 0 (MQ below (vp_Si Q) (#[.ref (q0 0), .int p0] : Array Value) s 0 0 (fun _ => False)) (F0 m 42 ls [.int t0, .int t1]) := by
        intro x1 x3 t0 t1 ls hf hl
        unfold B_X7_estate_42 at hf
        refine lv_ior hx hb dX7_estate_42 ?_
        refine lv_topi (fun x2_1 ex2_1 => ?_)
        have hf := hf x2_1 ex2_1
        refine lv_istore_n (lv' := [(2, .int x2_1), (0, .ref (q0 0)), (1, .int x1), (3, .int x3)]) hx hb dX7_estate_43 rfl hl (by decide) rfl (fun ls hl => ?_)
        obtain ⟨x3_2, ex3_2⟩ : ∃ y : Int32, y = x3 + (1 : Int32) := ⟨_, rfl⟩
        have hf := hf x3_2 ex3_2
        refine lv_iinc (v := x3_2) (lv' := [(3, .int x3_2), (2, .int x2_1), (0, .ref (q0 0)), (1, .int x1)]) hx hb dX7_estate_44 hl (k := 3) rfl (by rw [ex3_2]; rfl) (by decide) rfl (fun ls hl => ?_)
        refine lv_goto (tgt := 4) hx hb dX7_estate_47 (by decide) ?_
        exact hG_4 x1 x2_1 x3_2 ls hf (lv_sub hl [2, 3, 1, 0] rfl)
      have k_41 : ∀ (x1 : Int32) (x3 : Int32) (t0 : Int32) (ls : Array Slot), B_X7_estate_41 (fun z => ∃ k, k < n_4 ∧ I_4 k z) s0 x1 x3 t0 Q → lv_has ls 5 [(0, .ref (q0 0)), (1, .int x1), (3, .int x3)] → W p l e (headSpec (wsA yX7_estate cX7_estate 5 (some .int)) ({ frames := 1, cells := 0, slots := 0, locals := 23 })).room s m (#[.ref (q0 0), .int p0] : Array Value) below meth c s.heap [] 0 0 (MQ below (vp_Si Q) (#[.ref (q0 0), .int p0] : Array Value) s 0 0 (fun _ => False)) (F0 m 41 ls [.int t0]) := by
        intro x1 x3 t0 ls hf hl
        unfold B_X7_estate_41 at hf
        refine lv_iconst (v := (0 : Int32)) hx hb dX7_estate_41 (by decide) ?_
        exact k_42 x1 x3 (0 : Int32) t0 ls hf (lv_sub hl [0, 1, 2] rfl)
      refine lv_iload_n hx hb dX7_estate_4 rfl (lv_at hl 3 rfl) ?_
      refine lv_bipush (v := (20 : Int32)) hx hb dX7_estate_5 (by decide) ?_
      refine lv_icmp_ge (tgt := 50) hx hb dX7_estate_7 (by decide) (fun c_3 => ?_) (fun c_3 => ?_)
      · have hf := hf.1 c_3
        refine lv_iload_n hx hb dX7_estate_50 rfl (lv_at hl 2 rfl) ?_
        exact W.iret (v := x2) hx hb hr (fun t ht hW => ⟨x2, rfl, hf, ht⟩) (fun q h => absurd h List.not_mem_nil) dX7_estate_51
      · have hf := hf.2 c_3
        refine lv_aload_n hx hb dX7_estate_10 rfl (lv_at hl 0 rfl) ?_
        refine lv_iconst (v := (0 : Int32)) hx hb dX7_estate_11 (by decide) ?_
        refine lv_iload_n hx hb dX7_estate_12 rfl (lv_at hl 3 rfl) ?_
        have hPc : va_P D classes (wM cI cZ q0 s0) s.heap := hP
        refine vp_callSi (W.runV (As := [.int (0 : Int32), .int x3]) (rest := []) ⟨hx, hb, hml, hown, hts⟩ (c_X7_ownerOf l D cI cZ cW q0 (0 : Int32) x3 s0 _ hf) ⟨callB_of 2 hts (gA tw_792) rfl rfl rfl (ht _ tw_7) (ht _ tw_789) hd_X7_ownerOf ⟨Nat.le_of_ble_eq_true rfl, Nat.le_of_ble_eq_true rfl⟩, ht _ tw_791, ht _ twp_23⟩ ⟨PR_blind, va_recv hK hP (ci := 5) (q0 := 0) rfl eM_0, fun U hU hW => PR_mk hPc hK hU hW⟩ rfl rfl hl.1 rfl (lv_room (Nat.le_of_ble_eq_true rfl)) dX7_estate_13 ⟨Nat.zero_le _, Nat.zero_le _⟩) (fun r_4 hf => ?_)
        refine lv_istore (lv' := [(4, .int r_4), (0, .ref (q0 0)), (1, .int x1), (2, .int x2), (3, .int x3)]) hx hb dX7_estate_16 hl (by decide) rfl (fun ls hl => ?_)
        refine lv_iload_n hx hb dX7_estate_18 rfl (lv_at hl 3 rfl) ?_
        refine lv_iload hx hb dX7_estate_19 (lv_at hl 0 rfl) ?_
        refine lv_bipush (v := (-9 : Int32)) hx hb dX7_estate_21 (by decide) ?_
        refine lv_icmp_eq (tgt := 41) hx hb dX7_estate_23 (by decide) (fun c_5 => ?_) (fun c_5 => ?_)
        · have hf := hf.1 c_5
          exact k_41 x1 x3 x2 ls hf (lv_sub hl [1, 2, 4] rfl)
        · have hf := hf.2 c_5
          refine lv_iload_n hx hb dX7_estate_26 rfl (lv_at hl 2 rfl) ?_
          refine lv_iload hx hb dX7_estate_27 (lv_at hl 0 rfl) ?_
          have hPc : va_P D classes ([] : va_W) s.heap := hP.sub [] rfl
          refine vp_callSi (W.runS (As := [.int x1, .int r_4]) (rest := [.int x2]) ⟨hx, hb, hml, hown, hts⟩ (c_X7_has l D cI cZ cW  x1 r_4 _ hf) ⟨callB_of 2 hts (gA tw_771) rfl rfl rfl (ht _ tw_7) (ht _ tw_769) hd_X7_has ⟨Nat.le_of_ble_eq_true rfl, Nat.le_of_ble_eq_true rfl⟩, ht _ tw_770⟩ ⟨PR_blind, fun U hU hW => PR_mk hPc hK hU hW⟩ rfl rfl hl.1 rfl (lv_room (Nat.le_of_ble_eq_true rfl)) dX7_estate_29 ⟨Nat.zero_le _, Nat.zero_le _⟩) (fun r_6 hf => ?_)
          refine lv_if_eq (tgt := 41) hx hb dX7_estate_32 (by decide) (fun c_7 => ?_) (fun c_7 => ?_)
          · have hf := hf.1 c_7
            exact k_41 x1 x3 x2 ls hf (lv_sub hl [1, 2, 4] rfl)
          · have hf := hf.2 c_7
            refine lv_iconst (v := (1 : Int32)) hx hb dX7_estate_35 (by decide) ?_
            refine lv_iload_n hx hb dX7_estate_36 rfl (lv_at hl 4 rfl) ?_
            refine lv_ishl hx hb dX7_estate_37 ?_
            refine lv_goto (tgt := 42) hx hb dX7_estate_38 (by decide) ?_
            exact k_42 x1 x3 ((1 : Int32) <<< (x3 &&& 31)) x2 ls hf (lv_sub hl [1, 2, 4] rfl)
    exact main_4 n0_4 x1 x2 x3 ls hI0_4 hl
  refine lv_iconst (v := (0 : Int32)) hx hb dX7_estate_0 (by decide) ?_
  refine lv_istore_n (lv' := [(2, .int (0 : Int32)), (0, .ref (q0 0)), (1, .int p0)]) hx hb dX7_estate_1 rfl hl (by decide) rfl (fun ls hl => ?_)
  refine lv_iconst (v := (0 : Int32)) hx hb dX7_estate_2 (by decide) ?_
  refine lv_istore_n (lv' := [(3, .int (0 : Int32)), (2, .int (0 : Int32)), (0, .ref (q0 0)), (1, .int p0)]) hx hb dX7_estate_3 rfl hl (by decide) rfl (fun ls hl => ?_)
  exact k_4 p0 (0 : Int32) (0 : Int32) ls hf (lv_sub hl [2, 3, 1, 0] rfl)
def B_X7_owner_88 (G55 : (Int32 × Int32 × Int32 × Int32 × Int32) → Prop) (s0 : CS) (x1 : Int32) (x2 : Int32) (x3 : Int32) (x5 : Int32) (t0 : Int32) (t1 : Int32) (Q : Int32 → Prop) : Prop := ∀ x4_1 : Int32, x4_1 = (t1 ||| t0) → ∀ x5_2 : Int32, x5_2 = x5 + (1 : Int32) → G55 (x1, x2, x3, x4_1, x5_2)
def LB_X7_owner_55 (G55 : (Int32 × Int32 × Int32 × Int32 × Int32) → Prop) (s0 : CS) (x1 : Int32) (x2 : Int32) (x3 : Int32) (x4 : Int32) (x5 : Int32) (Q : Int32 → Prop) : Prop := (((s0.1 1) ≤ x5 → ((x2 = (0 : Int32) → vp_in x1 4 ∧ Q ((s0.2.1 2) x1.toNatClampNeg)) ∧ (¬ x2 = (0 : Int32) → ((x2 = (1 : Int32) → vp_in ((30 : Int32) + x1) 70 ∧ Q ((s0.2.1 5) ((30 : Int32) + x1).toNatClampNeg)) ∧ (¬ x2 = (1 : Int32) → ((x2 = (2 : Int32) → Q x3) ∧ (¬ x2 = (2 : Int32) → ((x2 = (3 : Int32) → Q x4) ∧ (¬ x2 = (3 : Int32) → ((x2 = (4 : Int32) → wp_X7_estate ((1 : Int32) <<< (x1 &&& 31)) s0 (fun r_11 => wp_X7_ones r_11 (fun r_12 => Q r_12))) ∧ (¬ x2 = (4 : Int32) → Q (-2 : Int32)))))))))))) ∧ (¬ (s0.1 1) ≤ x5 → vp_in ((20 : Int32) + x5) 70 ∧ ((¬ ((s0.2.1 5) ((20 : Int32) + x5).toNatClampNeg) = x1 → B_X7_owner_88 G55 s0 x1 x2 x3 x5 (0 : Int32) x4 Q) ∧ (((s0.2.1 5) ((20 : Int32) + x5).toNatClampNeg) = x1 → B_X7_owner_88 G55 s0 x1 x2 x3 x5 ((1 : Int32) <<< (x5 &&& 31)) x4 Q))))
def B_X7_owner_55 (s0 : CS) (x1 : Int32) (x2 : Int32) (x3 : Int32) (x4 : Int32) (x5 : Int32) (Q : Int32 → Prop) : Prop := LOOP (fun (G55 : (Int32 × Int32 × Int32 × Int32 × Int32) → Prop) z => LB_X7_owner_55 G55 s0 z.1 z.2.1 z.2.2.1 z.2.2.2.1 z.2.2.2.2 Q) (x1, x2, x3, x4, x5)
def B_X7_owner_44 (G18 : (Int32 × Int32 × Int32 × Int32 × Int32) → Prop) (s0 : CS) (x1 : Int32) (x2 : Int32) (x4 : Int32) (x5 : Int32) (t0 : Int32) (t1 : Int32) (Q : Int32 → Prop) : Prop := ∀ x3_15 : Int32, x3_15 = (t1 ||| t0) → ∀ x5_16 : Int32, x5_16 = x5 + (1 : Int32) → G18 (x1, x2, x3_15, x4, x5_16)
def LB_X7_owner_18 (G18 : (Int32 × Int32 × Int32 × Int32 × Int32) → Prop) (s0 : CS) (x1 : Int32) (x2 : Int32) (x3 : Int32) (x4 : Int32) (x5 : Int32) (Q : Int32 → Prop) : Prop := (((4 : Int32) ≤ x5 → B_X7_owner_55 s0 x1 x2 x3 x4 (0 : Int32) Q) ∧ (¬ (4 : Int32) ≤ x5 → vp_in x5 4 ∧ ((¬ ((s0.2.1 3) x5.toNatClampNeg) = x1 → B_X7_owner_44 G18 s0 x1 x2 x4 x5 (0 : Int32) x3 Q) ∧ (((s0.2.1 3) x5.toNatClampNeg) = x1 → B_X7_owner_44 G18 s0 x1 x2 x4 x5 ((1 : Int32) <<< (x5 &&& 31)) x3 Q))))
def B_X7_owner_18 (s0 : CS) (x1 : Int32) (x2 : Int32) (x3 : Int32) (x4 : Int32) (x5 : Int32) (Q : Int32 → Prop) : Prop := LOOP (fun (G18 : (Int32 × Int32 × Int32 × Int32 × Int32) → Prop) z => LB_X7_owner_18 G18 s0 z.1 z.2.1 z.2.2.1 z.2.2.2.1 z.2.2.2.2 Q) (x1, x2, x3, x4, x5)
def wp_X7_owner (p0 : Int32) (p1 : Int32) (s0 : CS) (Q : Int32 → Prop) : Prop := wp_X7_isOwner p0 s0 (fun r_20 => ((¬ r_20 = 0 → B_X7_owner_18 s0 p0 p1 (0 : Int32) (0 : Int32) (0 : Int32) Q) ∧ (r_20 = 0 → Q (-1 : Int32))))
set_option maxHeartbeats 4000000 in
set_option maxRecDepth 100000 in
theorem c_X7_owner (l : Launch) (D : va_G) (cI cZ cW : ClassId) (q0 : Nat → Nat) (p0 : Int32) (p1 : Int32) (s0 : CS) (Q : Int32 → Prop) (hf : wp_X7_owner p0 p1 s0 Q) : Met l yX7_owner (wsA yX7_owner cX7_owner 6 (some .int)) ({ frames := 2, cells := 0, slots := 0, locals := 47 }) (PR D cI cZ cW [.ref (q0 0), .int p0, .int p1] (wM cI cZ q0 s0)) (vp_Si Q) 0 0 (fun _ => False) := by
  refine Met.ofW (cc := cX7_owner) (maxL := 6) (ret := (some .int)) (by decide) rfl ?_
  intro p e s m args below meth c s₁ B hml hv
  obtain ⟨rfl, hP, hK⟩ := hv
  have hx := B.exec
  have hb := B.bytes
  have hr := B.returns
  have hts := atoms_spec (ws := (wsA yX7_owner cX7_owner 6 (some .int))) B.pre
  have ht : ∀ w ∈ lw_g, w.before _ s = true := fun w h => hts w (List.mem_cons_of_mem _ h)
  have hown : s.vm.findClass RX7 = some m.cls := findClass_of_methodNamed B.named
  have hlocks := B.notSynchronized
  have hl := lv_entry ([.ref (q0 0), .int p0, .int p1]) (n := 6) (Nat.le_of_ble_eq_true rfl)
  rw [lg_entry_eq]
  generalize (lg_sl ([.ref (q0 0), .int p0, .int p1]) ++ List.replicate (6 - (lg_sl ([.ref (q0 0), .int p0, .int p1])).length) Slot.unset).toArray = ls at hl ⊢
  have hl : lv_has ls 6 [(0, .ref (q0 0)), (1, .int p0), (2, .int p1)] := hl
  unfold wp_X7_owner at hf
  have k_55 : ∀ (x1 : Int32) (x2 : Int32) (x3 : Int32) (x4 : Int32) (x5 : Int32) (ls : Array Slot), B_X7_owner_55 s0 x1 x2 x3 x4 x5 Q → lv_has ls 6 [(0, .ref (q0 0)), (1, .int x1), (2, .int x2), (3, .int x3), (4, .int x4), (5, .int x5)] → W p l e (headSpec (wsA yX7_owner cX7_owner 6 (some .int)) ({ frames := 2, cells := 0, slots := 0, locals := 47 })).room s m (#[.ref (q0 0), .int p0, .int p1] : Array Value) below meth c s.heap [] 0 0 (MQ below (vp_Si Q) (#[.ref (q0 0), .int p0, .int p1] : Array Value) s 0 0 (fun _ => False)) (F0 m 55 ls []) := by
    intro x1 x2 x3 x4 x5 ls hf hl
    unfold B_X7_owner_55 at hf
    obtain ⟨I_55, ⟨n0_55, hI0_55⟩, hst_55⟩ := hf
    have main_55 : ∀ (n : Nat) (x1 : Int32) (x2 : Int32) (x3 : Int32) (x4 : Int32) (x5 : Int32) (ls : Array Slot), I_55 n (x1, x2, x3, x4, x5) → lv_has ls 6 [(0, .ref (q0 0)), (1, .int x1), (2, .int x2), (3, .int x3), (4, .int x4), (5, .int x5)] → W p l e (headSpec (wsA yX7_owner cX7_owner 6 (some .int)) ({ frames := 2, cells := 0, slots := 0, locals := 47 })).room s m (#[.ref (q0 0), .int p0, .int p1] : Array Value) below meth c s.heap [] 0 0 (MQ below (vp_Si Q) (#[.ref (q0 0), .int p0, .int p1] : Array Value) s 0 0 (fun _ => False)) (F0 m 55 ls []) := by
      intro n
      induction n using Nat.strongRecOn with
      | _ n_55 ih_55 =>
      intro x1 x2 x3 x4 x5 ls hI hl
      have hf : LB_X7_owner_55 (fun z => ∃ k, k < n_55 ∧ I_55 k z) s0 x1 x2 x3 x4 x5 Q := hst_55 n_55 (x1, x2, x3, x4, x5) hI
      have hG_55 : ∀ (x1 : Int32) (x2 : Int32) (x3 : Int32) (x4 : Int32) (x5 : Int32) (ls : Array Slot), (∃ k, k < n_55 ∧ I_55 k (x1, x2, x3, x4, x5)) → lv_has ls 6 [(0, .ref (q0 0)), (1, .int x1), (2, .int x2), (3, .int x3), (4, .int x4), (5, .int x5)] → W p l e (headSpec (wsA yX7_owner cX7_owner 6 (some .int)) ({ frames := 2, cells := 0, slots := 0, locals := 47 })).room s m (#[.ref (q0 0), .int p0, .int p1] : Array Value) below meth c s.heap [] 0 0 (MQ below (vp_Si Q) (#[.ref (q0 0), .int p0, .int p1] : Array Value) s 0 0 (fun _ => False)) (F0 m 55 ls []) := by
        rintro x1 x2 x3 x4 x5 ls ⟨k, hk, hI⟩ hl
        exact ih_55 k hk x1 x2 x3 x4 x5 ls hI hl
      unfold LB_X7_owner_55 at hf
      have k_88 : ∀ (x1 : Int32) (x2 : Int32) (x3 : Int32) (x5 : Int32) (t0 : Int32) (t1 : Int32) (ls : Array Slot), B_X7_owner_88 (fun z => ∃ k, k < n_55 ∧ I_55 k z) s0 x1 x2 x3 x5 t0 t1 Q → lv_has ls 6 [(0, .ref (q0 0)), (1, .int x1), (2, .int x2), (3, .int x3), (5, .int x5)] → W p l e (headSpec (wsA yX7_owner cX7_owner 6 (some .int)) ({ frames := 2, cells := 0, slots := 0, locals := 47 })).room s m (#[.ref (q0 0), .int p0, .int p1] : Array Value) below meth c s.heap [] 0 0 (MQ below (vp_Si Q) (#[.ref (q0 0), .int p0, .int p1] : Array Value) s 0 0 (fun _ => False)) (F0 m 88 ls [.int t0, .int t1]) := by
        intro x1 x2 x3 x5 t0 t1 ls hf hl
        unfold B_X7_owner_88 at hf
        refine lv_ior hx hb dX7_owner_88 ?_
        refine lv_topi (fun x4_1 ex4_1 => ?_)
        have hf := hf x4_1 ex4_1
        refine lv_istore (lv' := [(4, .int x4_1), (0, .ref (q0 0)), (1, .int x1), (2, .int x2), (3, .int x3), (5, .int x5)]) hx hb dX7_owner_89 hl (by decide) rfl (fun ls hl => ?_)
        obtain ⟨x5_2, ex5_2⟩ : ∃ y : Int32, y = x5 + (1 : Int32) := ⟨_, rfl⟩
        have hf := hf x5_2 ex5_2
        refine lv_iinc (v := x5_2) (lv' := [(5, .int x5_2), (4, .int x4_1), (0, .ref (q0 0)), (1, .int x1), (2, .int x2), (3, .int x3)]) hx hb dX7_owner_91 hl (k := 5) rfl (by rw [ex5_2]; rfl) (by decide) rfl (fun ls hl => ?_)
        refine lv_goto (tgt := 55) hx hb dX7_owner_94 (by decide) ?_
        exact hG_55 x1 x2 x3 x4_1 x5_2 ls hf (lv_sub hl [2, 3, 4, 5, 1, 0] rfl)
      refine lv_iload hx hb dX7_owner_55 (lv_at hl 5 rfl) ?_
      refine lv_aload_n hx hb dX7_owner_57 rfl (lv_at hl 0 rfl) ?_
      refine va_get (D := D) (ci := 5) (v := .int (s0.1 1)) (C := RX7) (T := TX7) (N := 28) hx hb ht inX7 hown hK hP 0 eM_0 rfl 1 (by decide) (ht _ tw_656) (fun _ h9 => h9) rfl dX7_owner_58 ?_
      refine lv_icmp_ge (tgt := 97) hx hb dX7_owner_61 (by decide) (fun c_3 => ?_) (fun c_3 => ?_)
      · have hf := hf.1 c_3
        refine lv_iload_n hx hb dX7_owner_97 rfl (lv_at hl 2 rfl) ?_
        by_cases c_4 : x2 = (0 : Int32)
        · have hf := hf.1 c_4
          refine lv_tableIn (off := 34) (tgt := 132) hx hb dX7_owner_98 (by rw [c_4]; decide) (by rw [c_4]; decide) (by rw [c_4]; first | done | rfl) (by decide) ?_
          refine lv_aload_n hx hb dX7_owner_132 rfl (lv_at hl 0 rfl) ?_
          refine va_get (D := D) (ci := 5) (v := .ref (q0 1)) (C := RX7) (T := TX7) (N := 28) hx hb ht inX7 hown hK hP 0 eM_0 rfl 2 (by decide) (ht _ tw_657) (fun _ h9 => h9) rfl dX7_owner_133 ?_
          refine lv_iload_n hx hb dX7_owner_136 rfl (lv_at hl 1 rfl) ?_
          obtain ⟨hi_5, hf⟩ := hf
          refine va_iald hx hb hK hP 1 0 eM_1 rfl hi_5 dX7_owner_137 ?_
          exact W.iret (v := ((s0.2.1 2) x1.toNatClampNeg)) hx hb hr (fun t ht hW => ⟨((s0.2.1 2) x1.toNatClampNeg), rfl, hf, ht⟩) (fun q h => absurd h List.not_mem_nil) dX7_owner_138
        · have hf := hf.2 c_4
          by_cases c_6 : x2 = (1 : Int32)
          · have hf := hf.1 c_6
            refine lv_tableIn (off := 41) (tgt := 139) hx hb dX7_owner_98 (by rw [c_6]; decide) (by rw [c_6]; decide) (by rw [c_6]; first | done | rfl) (by decide) ?_
            refine lv_aload_n hx hb dX7_owner_139 rfl (lv_at hl 0 rfl) ?_
            refine va_get (D := D) (ci := 5) (v := .ref (q0 4)) (C := RX7) (T := TX7) (N := 28) hx hb ht inX7 hown hK hP 0 eM_0 rfl 5 (by decide) (ht _ tw_660) (fun _ h9 => h9) rfl dX7_owner_140 ?_
            refine lv_bipush (v := (30 : Int32)) hx hb dX7_owner_143 (by decide) ?_
            refine lv_iload_n hx hb dX7_owner_145 rfl (lv_at hl 1 rfl) ?_
            refine lv_iadd hx hb dX7_owner_146 ?_
            obtain ⟨hi_7, hf⟩ := hf
            refine va_iald hx hb hK hP 4 0 eM_4 rfl hi_7 dX7_owner_147 ?_
            exact W.iret (v := ((s0.2.1 5) ((30 : Int32) + x1).toNatClampNeg)) hx hb hr (fun t ht hW => ⟨((s0.2.1 5) ((30 : Int32) + x1).toNatClampNeg), rfl, hf, ht⟩) (fun q h => absurd h List.not_mem_nil) dX7_owner_148
          · have hf := hf.2 c_6
            by_cases c_8 : x2 = (2 : Int32)
            · have hf := hf.1 c_8
              refine lv_tableIn (off := 51) (tgt := 149) hx hb dX7_owner_98 (by rw [c_8]; decide) (by rw [c_8]; decide) (by rw [c_8]; first | done | rfl) (by decide) ?_
              refine lv_iload_n hx hb dX7_owner_149 rfl (lv_at hl 3 rfl) ?_
              exact W.iret (v := x3) hx hb hr (fun t ht hW => ⟨x3, rfl, hf, ht⟩) (fun q h => absurd h List.not_mem_nil) dX7_owner_150
            · have hf := hf.2 c_8
              by_cases c_9 : x2 = (3 : Int32)
              · have hf := hf.1 c_9
                refine lv_tableIn (off := 53) (tgt := 151) hx hb dX7_owner_98 (by rw [c_9]; decide) (by rw [c_9]; decide) (by rw [c_9]; first | done | rfl) (by decide) ?_
                refine lv_iload hx hb dX7_owner_151 (lv_at hl 4 rfl) ?_
                exact W.iret (v := x4) hx hb hr (fun t ht hW => ⟨x4, rfl, hf, ht⟩) (fun q h => absurd h List.not_mem_nil) dX7_owner_153
              · have hf := hf.2 c_9
                by_cases c_10 : x2 = (4 : Int32)
                · have hf := hf.1 c_10
                  refine lv_tableIn (off := 56) (tgt := 154) hx hb dX7_owner_98 (by rw [c_10]; decide) (by rw [c_10]; decide) (by rw [c_10]; first | done | rfl) (by decide) ?_
                  refine lv_aload_n hx hb dX7_owner_154 rfl (lv_at hl 0 rfl) ?_
                  refine lv_iconst (v := (1 : Int32)) hx hb dX7_owner_155 (by decide) ?_
                  refine lv_iload_n hx hb dX7_owner_156 rfl (lv_at hl 1 rfl) ?_
                  refine lv_ishl hx hb dX7_owner_157 ?_
                  have hPc : va_P D classes (wM cI cZ q0 s0) s.heap := hP
                  refine vp_callSi (W.runV (As := [.int ((1 : Int32) <<< (x1 &&& 31))]) (rest := []) ⟨hx, hb, hml, hown, hts⟩ (c_X7_estate l D cI cZ cW q0 ((1 : Int32) <<< (x1 &&& 31)) s0 _ hf) ⟨callB_of 1 hts (gA tw_788) rfl rfl rfl (ht _ tw_7) (ht _ tw_785) hd_X7_estate ⟨Nat.le_of_ble_eq_true rfl, Nat.le_of_ble_eq_true rfl⟩, ht _ tw_787, ht _ twp_22⟩ ⟨PR_blind, va_recv hK hP (ci := 5) (q0 := 0) rfl eM_0, fun U hU hW => PR_mk hPc hK hU hW⟩ rfl rfl hl.1 rfl (lv_room (Nat.le_of_ble_eq_true rfl)) dX7_owner_158 ⟨Nat.zero_le _, Nat.zero_le _⟩) (fun r_11 hf => ?_)
                  have hPc : va_P D classes ([] : va_W) s.heap := hP.sub [] rfl
                  refine vp_callSi (W.runS (As := [.int r_11]) (rest := []) ⟨hx, hb, hml, hown, hts⟩ (c_X7_ones l D cI cZ cW  r_11 _ hf) ⟨callB_of 1 hts (gA tw_795) rfl rfl rfl (ht _ tw_7) (ht _ tw_793) hd_X7_ones ⟨Nat.le_of_ble_eq_true rfl, Nat.le_of_ble_eq_true rfl⟩, ht _ tw_794⟩ ⟨PR_blind, fun U hU hW => PR_mk hPc hK hU hW⟩ rfl rfl hl.1 rfl (lv_room (Nat.le_of_ble_eq_true rfl)) dX7_owner_161 ⟨Nat.zero_le _, Nat.zero_le _⟩) (fun r_12 hf => ?_)
                  exact W.iret (v := r_12) hx hb hr (fun t ht hW => ⟨r_12, rfl, hf, ht⟩) (fun q h => absurd h List.not_mem_nil) dX7_owner_164
                · have hf := hf.2 c_10
                  refine lv_tableOut (tgt := 165) hx hb dX7_owner_98 (by have h0 := lv_neT (a := 0) c_4 (by decide); have h1 := lv_neT (a := 1) c_6 (by decide); have h2 := lv_neT (a := 2) c_8 (by decide); have h3 := lv_neT (a := 3) c_9 (by decide); have h4 := lv_neT (a := 4) c_10 (by decide); omega) (by decide) ?_
                  refine lv_bipush (v := (-2 : Int32)) hx hb dX7_owner_165 (by decide) ?_
                  exact W.iret (v := (-2 : Int32)) hx hb hr (fun t ht hW => ⟨(-2 : Int32), rfl, hf, ht⟩) (fun q h => absurd h List.not_mem_nil) dX7_owner_167
      · have hf := hf.2 c_3
        refine lv_iload hx hb dX7_owner_64 (lv_at hl 4 rfl) ?_
        refine lv_aload_n hx hb dX7_owner_66 rfl (lv_at hl 0 rfl) ?_
        refine va_get (D := D) (ci := 5) (v := .ref (q0 4)) (C := RX7) (T := TX7) (N := 28) hx hb ht inX7 hown hK hP 0 eM_0 rfl 5 (by decide) (ht _ tw_660) (fun _ h9 => h9) rfl dX7_owner_67 ?_
        refine lv_bipush (v := (20 : Int32)) hx hb dX7_owner_70 (by decide) ?_
        refine lv_iload hx hb dX7_owner_72 (lv_at hl 5 rfl) ?_
        refine lv_iadd hx hb dX7_owner_74 ?_
        obtain ⟨hi_13, hf⟩ := hf
        refine va_iald hx hb hK hP 4 0 eM_4 rfl hi_13 dX7_owner_75 ?_
        refine lv_iload_n hx hb dX7_owner_76 rfl (lv_at hl 1 rfl) ?_
        refine lv_icmp_ne (tgt := 87) hx hb dX7_owner_77 (by decide) (fun c_14 => ?_) (fun c_14 => ?_)
        · have hf := hf.1 c_14
          refine lv_iconst (v := (0 : Int32)) hx hb dX7_owner_87 (by decide) ?_
          exact k_88 x1 x2 x3 x5 (0 : Int32) x4 ls hf (lv_sub hl [0, 1, 2, 3, 5] rfl)
        · have hf := hf.2 c_14
          refine lv_iconst (v := (1 : Int32)) hx hb dX7_owner_80 (by decide) ?_
          refine lv_iload hx hb dX7_owner_81 (lv_at hl 5 rfl) ?_
          refine lv_ishl hx hb dX7_owner_83 ?_
          refine lv_goto (tgt := 88) hx hb dX7_owner_84 (by decide) ?_
          exact k_88 x1 x2 x3 x5 ((1 : Int32) <<< (x5 &&& 31)) x4 ls hf (lv_sub hl [0, 1, 2, 3, 5] rfl)
    exact main_55 n0_55 x1 x2 x3 x4 x5 ls hI0_55 hl
  have k_18 : ∀ (x1 : Int32) (x2 : Int32) (x3 : Int32) (x4 : Int32) (x5 : Int32) (ls : Array Slot), B_X7_owner_18 s0 x1 x2 x3 x4 x5 Q → lv_has ls 6 [(0, .ref (q0 0)), (1, .int x1), (2, .int x2), (3, .int x3), (4, .int x4), (5, .int x5)] → W p l e (headSpec (wsA yX7_owner cX7_owner 6 (some .int)) ({ frames := 2, cells := 0, slots := 0, locals := 47 })).room s m (#[.ref (q0 0), .int p0, .int p1] : Array Value) below meth c s.heap [] 0 0 (MQ below (vp_Si Q) (#[.ref (q0 0), .int p0, .int p1] : Array Value) s 0 0 (fun _ => False)) (F0 m 18 ls []) := by
    intro x1 x2 x3 x4 x5 ls hf hl
    unfold B_X7_owner_18 at hf
    obtain ⟨I_18, ⟨n0_18, hI0_18⟩, hst_18⟩ := hf
    have main_18 : ∀ (n : Nat) (x1 : Int32) (x2 : Int32) (x3 : Int32) (x4 : Int32) (x5 : Int32) (ls : Array Slot), I_18 n (x1, x2, x3, x4, x5) → lv_has ls 6 [(0, .ref (q0 0)), (1, .int x1), (2, .int x2), (3, .int x3), (4, .int x4), (5, .int x5)] → W p l e (headSpec (wsA yX7_owner cX7_owner 6 (some .int)) ({ frames := 2, cells := 0, slots := 0, locals := 47 })).room s m (#[.ref (q0 0), .int p0, .int p1] : Array Value) below meth c s.heap [] 0 0 (MQ below (vp_Si Q) (#[.ref (q0 0), .int p0, .int p1] : Array Value) s 0 0 (fun _ => False)) (F0 m 18 ls []) := by
      intro n
      induction n using Nat.strongRecOn with
      | _ n_18 ih_18 =>
      intro x1 x2 x3 x4 x5 ls hI hl
      have hf : LB_X7_owner_18 (fun z => ∃ k, k < n_18 ∧ I_18 k z) s0 x1 x2 x3 x4 x5 Q := hst_18 n_18 (x1, x2, x3, x4, x5) hI
      have hG_18 : ∀ (x1 : Int32) (x2 : Int32) (x3 : Int32) (x4 : Int32) (x5 : Int32) (ls : Array Slot), (∃ k, k < n_18 ∧ I_18 k (x1, x2, x3, x4, x5)) → lv_has ls 6 [(0, .ref (q0 0)), (1, .int x1), (2, .int x2), (3, .int x3), (4, .int x4), (5, .int x5)] → W p l e (headSpec (wsA yX7_owner cX7_owner 6 (some .int)) ({ frames := 2, cells := 0, slots := 0, locals := 47 })).room s m (#[.ref (q0 0), .int p0, .int p1] : Array Value) below meth c s.heap [] 0 0 (MQ below (vp_Si Q) (#[.ref (q0 0), .int p0, .int p1] : Array Value) s 0 0 (fun _ => False)) (F0 m 18 ls []) := by
        rintro x1 x2 x3 x4 x5 ls ⟨k, hk, hI⟩ hl
        exact ih_18 k hk x1 x2 x3 x4 x5 ls hI hl
      unfold LB_X7_owner_18 at hf
      have k_44 : ∀ (x1 : Int32) (x2 : Int32) (x4 : Int32) (x5 : Int32) (t0 : Int32) (t1 : Int32) (ls : Array Slot), B_X7_owner_44 (fun z => ∃ k, k < n_18 ∧ I_18 k z) s0 x1 x2 x4 x5 t0 t1 Q → lv_has ls 6 [(0, .ref (q0 0)), (1, .int x1), (2, .int x2), (4, .int x4), (5, .int x5)] → W p l e (headSpec (wsA yX7_owner cX7_owner 6 (some .int)) ({ frames := 2, cells := 0, slots := 0, locals := 47 })).room s m (#[.ref (q0 0), .int p0, .int p1] : Array Value) below meth c s.heap [] 0 0 (MQ below (vp_Si Q) (#[.ref (q0 0), .int p0, .int p1] : Array Value) s 0 0 (fun _ => False)) (F0 m 44 ls [.int t0, .int t1]) := by
        intro x1 x2 x4 x5 t0 t1 ls hf hl
        unfold B_X7_owner_44 at hf
        refine lv_ior hx hb dX7_owner_44 ?_
        refine lv_topi (fun x3_15 ex3_15 => ?_)
        have hf := hf x3_15 ex3_15
        refine lv_istore_n (lv' := [(3, .int x3_15), (0, .ref (q0 0)), (1, .int x1), (2, .int x2), (4, .int x4), (5, .int x5)]) hx hb dX7_owner_45 rfl hl (by decide) rfl (fun ls hl => ?_)
        obtain ⟨x5_16, ex5_16⟩ : ∃ y : Int32, y = x5 + (1 : Int32) := ⟨_, rfl⟩
        have hf := hf x5_16 ex5_16
        refine lv_iinc (v := x5_16) (lv' := [(5, .int x5_16), (3, .int x3_15), (0, .ref (q0 0)), (1, .int x1), (2, .int x2), (4, .int x4)]) hx hb dX7_owner_46 hl (k := 5) rfl (by rw [ex5_16]; rfl) (by decide) rfl (fun ls hl => ?_)
        refine lv_goto (tgt := 18) hx hb dX7_owner_49 (by decide) ?_
        exact hG_18 x1 x2 x3_15 x4 x5_16 ls hf (lv_sub hl [2, 3, 4, 1, 5, 0] rfl)
      refine lv_iload hx hb dX7_owner_18 (lv_at hl 5 rfl) ?_
      refine lv_iconst (v := (4 : Int32)) hx hb dX7_owner_20 (by decide) ?_
      refine lv_icmp_ge (tgt := 52) hx hb dX7_owner_21 (by decide) (fun c_17 => ?_) (fun c_17 => ?_)
      · have hf := hf.1 c_17
        refine lv_iconst (v := (0 : Int32)) hx hb dX7_owner_52 (by decide) ?_
        refine lv_istore (lv' := [(5, .int (0 : Int32)), (0, .ref (q0 0)), (1, .int x1), (2, .int x2), (3, .int x3), (4, .int x4)]) hx hb dX7_owner_53 hl (by decide) rfl (fun ls hl => ?_)
        exact k_55 x1 x2 x3 x4 (0 : Int32) ls hf (lv_sub hl [1, 2, 3, 4, 5, 0] rfl)
      · have hf := hf.2 c_17
        refine lv_iload_n hx hb dX7_owner_24 rfl (lv_at hl 3 rfl) ?_
        refine lv_aload_n hx hb dX7_owner_25 rfl (lv_at hl 0 rfl) ?_
        refine va_get (D := D) (ci := 5) (v := .ref (q0 2)) (C := RX7) (T := TX7) (N := 28) hx hb ht inX7 hown hK hP 0 eM_0 rfl 3 (by decide) (ht _ tw_658) (fun _ h9 => h9) rfl dX7_owner_26 ?_
        refine lv_iload hx hb dX7_owner_29 (lv_at hl 5 rfl) ?_
        obtain ⟨hi_18, hf⟩ := hf
        refine va_iald hx hb hK hP 2 0 eM_2 rfl hi_18 dX7_owner_31 ?_
        refine lv_iload_n hx hb dX7_owner_32 rfl (lv_at hl 1 rfl) ?_
        refine lv_icmp_ne (tgt := 43) hx hb dX7_owner_33 (by decide) (fun c_19 => ?_) (fun c_19 => ?_)
        · have hf := hf.1 c_19
          refine lv_iconst (v := (0 : Int32)) hx hb dX7_owner_43 (by decide) ?_
          exact k_44 x1 x2 x4 x5 (0 : Int32) x3 ls hf (lv_sub hl [0, 1, 2, 4, 5] rfl)
        · have hf := hf.2 c_19
          refine lv_iconst (v := (1 : Int32)) hx hb dX7_owner_36 (by decide) ?_
          refine lv_iload hx hb dX7_owner_37 (lv_at hl 5 rfl) ?_
          refine lv_ishl hx hb dX7_owner_39 ?_
          refine lv_goto (tgt := 44) hx hb dX7_owner_40 (by decide) ?_
          exact k_44 x1 x2 x4 x5 ((1 : Int32) <<< (x5 &&& 31)) x3 ls hf (lv_sub hl [0, 1, 2, 4, 5] rfl)
    exact main_18 n0_18 x1 x2 x3 x4 x5 ls hI0_18 hl
  refine lv_aload_n hx hb dX7_owner_0 rfl (lv_at hl 0 rfl) ?_
  refine lv_iload_n hx hb dX7_owner_1 rfl (lv_at hl 1 rfl) ?_
  have hPc : va_P D classes (wM cI cZ q0 s0) s.heap := hP
  refine vp_callSi (W.runV (As := [.int p0]) (rest := []) ⟨hx, hb, hml, hown, hts⟩ (c_X7_isOwner l D cI cZ cW q0 p0 s0 _ hf) ⟨callB_of 1 hts (gA tw_784) rfl rfl rfl (ht _ tw_7) (ht _ tw_781) hd_X7_isOwner ⟨Nat.le_of_ble_eq_true rfl, Nat.le_of_ble_eq_true rfl⟩, ht _ tw_783, ht _ twp_21⟩ ⟨PR_blind, va_recv hK hP (ci := 5) (q0 := 0) rfl eM_0, fun U hU hW => PR_mk hPc hK hU hW⟩ rfl rfl hl.1 rfl (lv_room (Nat.le_of_ble_eq_true rfl)) dX7_owner_2 ⟨Nat.zero_le _, Nat.zero_le _⟩) (fun r_20 hf => ?_)
  refine lv_if_ne (tgt := 10) hx hb dX7_owner_5 (by decide) (fun c_21 => ?_) (fun c_21 => ?_)
  · have hf := hf.1 c_21
    refine lv_iconst (v := (0 : Int32)) hx hb dX7_owner_10 (by decide) ?_
    refine lv_istore_n (lv' := [(3, .int (0 : Int32)), (0, .ref (q0 0)), (1, .int p0), (2, .int p1)]) hx hb dX7_owner_11 rfl hl (by decide) rfl (fun ls hl => ?_)
    refine lv_iconst (v := (0 : Int32)) hx hb dX7_owner_12 (by decide) ?_
    refine lv_istore (lv' := [(4, .int (0 : Int32)), (3, .int (0 : Int32)), (0, .ref (q0 0)), (1, .int p0), (2, .int p1)]) hx hb dX7_owner_13 hl (by decide) rfl (fun ls hl => ?_)
    refine lv_iconst (v := (0 : Int32)) hx hb dX7_owner_15 (by decide) ?_
    refine lv_istore (lv' := [(5, .int (0 : Int32)), (4, .int (0 : Int32)), (3, .int (0 : Int32)), (0, .ref (q0 0)), (1, .int p0), (2, .int p1)]) hx hb dX7_owner_16 hl (by decide) rfl (fun ls hl => ?_)
    exact k_18 p0 p1 (0 : Int32) (0 : Int32) (0 : Int32) ls hf (lv_sub hl [3, 4, 5, 2, 1, 0] rfl)
  · have hf := hf.2 c_21
    refine lv_iconst (v := (-1 : Int32)) hx hb dX7_owner_8 (by decide) ?_
    exact W.iret (v := (-1 : Int32)) hx hb hr (fun t ht hW => ⟨(-1 : Int32), rfl, hf, ht⟩) (fun q h => absurd h List.not_mem_nil) dX7_owner_9
def wp_X7_hole (p0 : Int32) (p1 : Int32) (s0 : CS) (Q : Int32 → Prop) : Prop := wp_X7_isHole p0 s0 (fun r_1 => ((¬ r_1 = 0 → ((p1 = (0 : Int32) → vp_in p0 5 ∧ Q ((s0.2.1 4) p0.toNatClampNeg)) ∧ (¬ p1 = (0 : Int32) → ((p1 = (1 : Int32) → vp_in ((20 : Int32) + p0) 70 ∧ Q ((s0.2.1 5) ((20 : Int32) + p0).toNatClampNeg)) ∧ (¬ p1 = (1 : Int32) → ((p1 = (2 : Int32) → vp_in ((25 : Int32) + p0) 70 ∧ Q ((s0.2.1 5) ((25 : Int32) + p0).toNatClampNeg)) ∧ (¬ p1 = (2 : Int32) → ((p1 = (3 : Int32) → wp_X7_of (0 : Int32) p0 s0 (fun r_10 => Q r_10)) ∧ (¬ p1 = (3 : Int32) → ((p1 = (4 : Int32) → wp_X7_of (0 : Int32) p0 s0 (fun r_12 => wp_X7_ones r_12 (fun r_13 => Q r_13))) ∧ (¬ p1 = (4 : Int32) → Q (-2 : Int32)))))))))))) ∧ (r_1 = 0 → Q (-1 : Int32))))
set_option maxHeartbeats 4000000 in
set_option maxRecDepth 100000 in
theorem c_X7_hole (l : Launch) (D : va_G) (cI cZ cW : ClassId) (q0 : Nat → Nat) (p0 : Int32) (p1 : Int32) (s0 : CS) (Q : Int32 → Prop) (hf : wp_X7_hole p0 p1 s0 Q) : Met l yX7_hole (wsA yX7_hole cX7_hole 3 (some .int)) ({ frames := 2, cells := 0, slots := 0, locals := 46 }) (PR D cI cZ cW [.ref (q0 0), .int p0, .int p1] (wM cI cZ q0 s0)) (vp_Si Q) 0 0 (fun _ => False) := by
  refine Met.ofW (cc := cX7_hole) (maxL := 3) (ret := (some .int)) (by decide) rfl ?_
  intro p e s m args below meth c s₁ B hml hv
  obtain ⟨rfl, hP, hK⟩ := hv
  have hx := B.exec
  have hb := B.bytes
  have hr := B.returns
  have hts := atoms_spec (ws := (wsA yX7_hole cX7_hole 3 (some .int))) B.pre
  have ht : ∀ w ∈ lw_g, w.before _ s = true := fun w h => hts w (List.mem_cons_of_mem _ h)
  have hown : s.vm.findClass RX7 = some m.cls := findClass_of_methodNamed B.named
  have hlocks := B.notSynchronized
  have hl := lv_entry ([.ref (q0 0), .int p0, .int p1]) (n := 3) (Nat.le_of_ble_eq_true rfl)
  rw [lg_entry_eq]
  generalize (lg_sl ([.ref (q0 0), .int p0, .int p1]) ++ List.replicate (3 - (lg_sl ([.ref (q0 0), .int p0, .int p1])).length) Slot.unset).toArray = ls at hl ⊢
  have hl : lv_has ls 3 [(0, .ref (q0 0)), (1, .int p0), (2, .int p1)] := hl
  unfold wp_X7_hole at hf
  refine lv_aload_n hx hb dX7_hole_0 rfl (lv_at hl 0 rfl) ?_
  refine lv_iload_n hx hb dX7_hole_1 rfl (lv_at hl 1 rfl) ?_
  have hPc : va_P D classes (wM cI cZ q0 s0) s.heap := hP
  refine vp_callSi (W.runV (As := [.int p0]) (rest := []) ⟨hx, hb, hml, hown, hts⟩ (c_X7_isHole l D cI cZ cW q0 p0 s0 _ hf) ⟨callB_of 1 hts (gA tw_803) rfl rfl rfl (ht _ tw_7) (ht _ tw_800) hd_X7_isHole ⟨Nat.le_of_ble_eq_true rfl, Nat.le_of_ble_eq_true rfl⟩, ht _ tw_802, ht _ twp_24⟩ ⟨PR_blind, va_recv hK hP (ci := 5) (q0 := 0) rfl eM_0, fun U hU hW => PR_mk hPc hK hU hW⟩ rfl rfl hl.1 rfl (lv_room (Nat.le_of_ble_eq_true rfl)) dX7_hole_2 ⟨Nat.zero_le _, Nat.zero_le _⟩) (fun r_1 hf => ?_)
  refine lv_if_ne (tgt := 10) hx hb dX7_hole_5 (by decide) (fun c_2 => ?_) (fun c_2 => ?_)
  · have hf := hf.1 c_2
    refine lv_iload_n hx hb dX7_hole_10 rfl (lv_at hl 2 rfl) ?_
    by_cases c_3 : p1 = (0 : Int32)
    · have hf := hf.1 c_3
      refine lv_tableIn (off := 33) (tgt := 44) hx hb dX7_hole_11 (by rw [c_3]; decide) (by rw [c_3]; decide) (by rw [c_3]; first | done | rfl) (by decide) ?_
      refine lv_aload_n hx hb dX7_hole_44 rfl (lv_at hl 0 rfl) ?_
      refine va_get (D := D) (ci := 5) (v := .ref (q0 3)) (C := RX7) (T := TX7) (N := 28) hx hb ht inX7 hown hK hP 0 eM_0 rfl 4 (by decide) (ht _ tw_659) (fun _ h9 => h9) rfl dX7_hole_45 ?_
      refine lv_iload_n hx hb dX7_hole_48 rfl (lv_at hl 1 rfl) ?_
      obtain ⟨hi_4, hf⟩ := hf
      refine va_iald hx hb hK hP 3 0 eM_3 rfl hi_4 dX7_hole_49 ?_
      exact W.iret (v := ((s0.2.1 4) p0.toNatClampNeg)) hx hb hr (fun t ht hW => ⟨((s0.2.1 4) p0.toNatClampNeg), rfl, hf, ht⟩) (fun q h => absurd h List.not_mem_nil) dX7_hole_50
    · have hf := hf.2 c_3
      by_cases c_5 : p1 = (1 : Int32)
      · have hf := hf.1 c_5
        refine lv_tableIn (off := 40) (tgt := 51) hx hb dX7_hole_11 (by rw [c_5]; decide) (by rw [c_5]; decide) (by rw [c_5]; first | done | rfl) (by decide) ?_
        refine lv_aload_n hx hb dX7_hole_51 rfl (lv_at hl 0 rfl) ?_
        refine va_get (D := D) (ci := 5) (v := .ref (q0 4)) (C := RX7) (T := TX7) (N := 28) hx hb ht inX7 hown hK hP 0 eM_0 rfl 5 (by decide) (ht _ tw_660) (fun _ h9 => h9) rfl dX7_hole_52 ?_
        refine lv_bipush (v := (20 : Int32)) hx hb dX7_hole_55 (by decide) ?_
        refine lv_iload_n hx hb dX7_hole_57 rfl (lv_at hl 1 rfl) ?_
        refine lv_iadd hx hb dX7_hole_58 ?_
        obtain ⟨hi_6, hf⟩ := hf
        refine va_iald hx hb hK hP 4 0 eM_4 rfl hi_6 dX7_hole_59 ?_
        exact W.iret (v := ((s0.2.1 5) ((20 : Int32) + p0).toNatClampNeg)) hx hb hr (fun t ht hW => ⟨((s0.2.1 5) ((20 : Int32) + p0).toNatClampNeg), rfl, hf, ht⟩) (fun q h => absurd h List.not_mem_nil) dX7_hole_60
      · have hf := hf.2 c_5
        by_cases c_7 : p1 = (2 : Int32)
        · have hf := hf.1 c_7
          refine lv_tableIn (off := 50) (tgt := 61) hx hb dX7_hole_11 (by rw [c_7]; decide) (by rw [c_7]; decide) (by rw [c_7]; first | done | rfl) (by decide) ?_
          refine lv_aload_n hx hb dX7_hole_61 rfl (lv_at hl 0 rfl) ?_
          refine va_get (D := D) (ci := 5) (v := .ref (q0 4)) (C := RX7) (T := TX7) (N := 28) hx hb ht inX7 hown hK hP 0 eM_0 rfl 5 (by decide) (ht _ tw_660) (fun _ h9 => h9) rfl dX7_hole_62 ?_
          refine lv_bipush (v := (25 : Int32)) hx hb dX7_hole_65 (by decide) ?_
          refine lv_iload_n hx hb dX7_hole_67 rfl (lv_at hl 1 rfl) ?_
          refine lv_iadd hx hb dX7_hole_68 ?_
          obtain ⟨hi_8, hf⟩ := hf
          refine va_iald hx hb hK hP 4 0 eM_4 rfl hi_8 dX7_hole_69 ?_
          exact W.iret (v := ((s0.2.1 5) ((25 : Int32) + p0).toNatClampNeg)) hx hb hr (fun t ht hW => ⟨((s0.2.1 5) ((25 : Int32) + p0).toNatClampNeg), rfl, hf, ht⟩) (fun q h => absurd h List.not_mem_nil) dX7_hole_70
        · have hf := hf.2 c_7
          by_cases c_9 : p1 = (3 : Int32)
          · have hf := hf.1 c_9
            refine lv_tableIn (off := 60) (tgt := 71) hx hb dX7_hole_11 (by rw [c_9]; decide) (by rw [c_9]; decide) (by rw [c_9]; first | done | rfl) (by decide) ?_
            refine lv_aload_n hx hb dX7_hole_71 rfl (lv_at hl 0 rfl) ?_
            refine lv_iconst (v := (0 : Int32)) hx hb dX7_hole_72 (by decide) ?_
            refine lv_iload_n hx hb dX7_hole_73 rfl (lv_at hl 1 rfl) ?_
            have hPc : va_P D classes (wM cI cZ q0 s0) s.heap := hP
            refine vp_callSi (W.runV (As := [.int (0 : Int32), .int p0]) (rest := []) ⟨hx, hb, hml, hown, hts⟩ (c_X7_of l D cI cZ cW q0 (0 : Int32) p0 s0 _ hf) ⟨callB_of 2 hts (gA tw_807) rfl rfl rfl (ht _ tw_7) (ht _ tw_804) hd_X7_of ⟨Nat.le_of_ble_eq_true rfl, Nat.le_of_ble_eq_true rfl⟩, ht _ tw_806, ht _ twp_25⟩ ⟨PR_blind, va_recv hK hP (ci := 5) (q0 := 0) rfl eM_0, fun U hU hW => PR_mk hPc hK hU hW⟩ rfl rfl hl.1 rfl (lv_room (Nat.le_of_ble_eq_true rfl)) dX7_hole_74 ⟨Nat.zero_le _, Nat.zero_le _⟩) (fun r_10 hf => ?_)
            exact W.iret (v := r_10) hx hb hr (fun t ht hW => ⟨r_10, rfl, hf, ht⟩) (fun q h => absurd h List.not_mem_nil) dX7_hole_77
          · have hf := hf.2 c_9
            by_cases c_11 : p1 = (4 : Int32)
            · have hf := hf.1 c_11
              refine lv_tableIn (off := 67) (tgt := 78) hx hb dX7_hole_11 (by rw [c_11]; decide) (by rw [c_11]; decide) (by rw [c_11]; first | done | rfl) (by decide) ?_
              refine lv_aload_n hx hb dX7_hole_78 rfl (lv_at hl 0 rfl) ?_
              refine lv_iconst (v := (0 : Int32)) hx hb dX7_hole_79 (by decide) ?_
              refine lv_iload_n hx hb dX7_hole_80 rfl (lv_at hl 1 rfl) ?_
              have hPc : va_P D classes (wM cI cZ q0 s0) s.heap := hP
              refine vp_callSi (W.runV (As := [.int (0 : Int32), .int p0]) (rest := []) ⟨hx, hb, hml, hown, hts⟩ (c_X7_of l D cI cZ cW q0 (0 : Int32) p0 s0 _ hf) ⟨callB_of 2 hts (gA tw_807) rfl rfl rfl (ht _ tw_7) (ht _ tw_804) hd_X7_of ⟨Nat.le_of_ble_eq_true rfl, Nat.le_of_ble_eq_true rfl⟩, ht _ tw_806, ht _ twp_25⟩ ⟨PR_blind, va_recv hK hP (ci := 5) (q0 := 0) rfl eM_0, fun U hU hW => PR_mk hPc hK hU hW⟩ rfl rfl hl.1 rfl (lv_room (Nat.le_of_ble_eq_true rfl)) dX7_hole_81 ⟨Nat.zero_le _, Nat.zero_le _⟩) (fun r_12 hf => ?_)
              have hPc : va_P D classes ([] : va_W) s.heap := hP.sub [] rfl
              refine vp_callSi (W.runS (As := [.int r_12]) (rest := []) ⟨hx, hb, hml, hown, hts⟩ (c_X7_ones l D cI cZ cW  r_12 _ hf) ⟨callB_of 1 hts (gA tw_795) rfl rfl rfl (ht _ tw_7) (ht _ tw_793) hd_X7_ones ⟨Nat.le_of_ble_eq_true rfl, Nat.le_of_ble_eq_true rfl⟩, ht _ tw_794⟩ ⟨PR_blind, fun U hU hW => PR_mk hPc hK hU hW⟩ rfl rfl hl.1 rfl (lv_room (Nat.le_of_ble_eq_true rfl)) dX7_hole_84 ⟨Nat.zero_le _, Nat.zero_le _⟩) (fun r_13 hf => ?_)
              exact W.iret (v := r_13) hx hb hr (fun t ht hW => ⟨r_13, rfl, hf, ht⟩) (fun q h => absurd h List.not_mem_nil) dX7_hole_87
            · have hf := hf.2 c_11
              refine lv_tableOut (tgt := 88) hx hb dX7_hole_11 (by have h0 := lv_neT (a := 0) c_3 (by decide); have h1 := lv_neT (a := 1) c_5 (by decide); have h2 := lv_neT (a := 2) c_7 (by decide); have h3 := lv_neT (a := 3) c_9 (by decide); have h4 := lv_neT (a := 4) c_11 (by decide); omega) (by decide) ?_
              refine lv_bipush (v := (-2 : Int32)) hx hb dX7_hole_88 (by decide) ?_
              exact W.iret (v := (-2 : Int32)) hx hb hr (fun t ht hW => ⟨(-2 : Int32), rfl, hf, ht⟩) (fun q h => absurd h List.not_mem_nil) dX7_hole_90
  · have hf := hf.2 c_2
    refine lv_iconst (v := (-1 : Int32)) hx hb dX7_hole_8 (by decide) ?_
    exact W.iret (v := (-1 : Int32)) hx hb hr (fun t ht hW => ⟨(-1 : Int32), rfl, hf, ht⟩) (fun q h => absurd h List.not_mem_nil) dX7_hole_9
def wp_X7_cell (p0 : Int32) (p1 : Int32) (s0 : CS) (Q : Int32 → Prop) : Prop := wp_X7_isCell p0 (fun r_1 => ((¬ r_1 = 0 → vp_in p0 70 ∧ ∀ x3_4 : Int32, x3_4 = ((s0.2.1 5) p0.toNatClampNeg) → ((p1 = (0 : Int32) → ((¬ x3_4 = (7 : Int32) → ((¬ x3_4 = (8 : Int32) → Q (1 : Int32)) ∧ (x3_4 = (8 : Int32) → Q (2 : Int32)))) ∧ (x3_4 = (7 : Int32) → Q (0 : Int32)))) ∧ (¬ p1 = (0 : Int32) → ((p1 = (1 : Int32) → (((7 : Int32) ≤ x3_4 → Q (-9 : Int32)) ∧ (¬ (7 : Int32) ≤ x3_4 → Q x3_4))) ∧ (¬ p1 = (1 : Int32) → ((p1 = (2 : Int32) → wp_X7_ownerOf (0 : Int32) p0 s0 (fun r_11 => Q r_11)) ∧ (¬ p1 = (2 : Int32) → Q (-2 : Int32)))))))) ∧ (r_1 = 0 → Q (-1 : Int32))))
set_option maxHeartbeats 4000000 in
set_option maxRecDepth 100000 in
theorem c_X7_cell (l : Launch) (D : va_G) (cI cZ cW : ClassId) (q0 : Nat → Nat) (p0 : Int32) (p1 : Int32) (s0 : CS) (Q : Int32 → Prop) (hf : wp_X7_cell p0 p1 s0 Q) : Met l yX7_cell (wsA yX7_cell cX7_cell 4 (some .int)) ({ frames := 2, cells := 0, slots := 0, locals := 45 }) (PR D cI cZ cW [.ref (q0 0), .int p0, .int p1] (wM cI cZ q0 s0)) (vp_Si Q) 0 0 (fun _ => False) := by
  refine Met.ofW (cc := cX7_cell) (maxL := 4) (ret := (some .int)) (by decide) rfl ?_
  intro p e s m args below meth c s₁ B hml hv
  obtain ⟨rfl, hP, hK⟩ := hv
  have hx := B.exec
  have hb := B.bytes
  have hr := B.returns
  have hts := atoms_spec (ws := (wsA yX7_cell cX7_cell 4 (some .int))) B.pre
  have ht : ∀ w ∈ lw_g, w.before _ s = true := fun w h => hts w (List.mem_cons_of_mem _ h)
  have hown : s.vm.findClass RX7 = some m.cls := findClass_of_methodNamed B.named
  have hlocks := B.notSynchronized
  have hl := lv_entry ([.ref (q0 0), .int p0, .int p1]) (n := 4) (Nat.le_of_ble_eq_true rfl)
  rw [lg_entry_eq]
  generalize (lg_sl ([.ref (q0 0), .int p0, .int p1]) ++ List.replicate (4 - (lg_sl ([.ref (q0 0), .int p0, .int p1])).length) Slot.unset).toArray = ls at hl ⊢
  have hl : lv_has ls 4 [(0, .ref (q0 0)), (1, .int p0), (2, .int p1)] := hl
  unfold wp_X7_cell at hf
  refine lv_iload_n hx hb dX7_cell_0 rfl (lv_at hl 1 rfl) ?_
  have hPc : va_P D classes ([] : va_W) s.heap := hP.sub [] rfl
  refine vp_callSi (W.runS (As := [.int p0]) (rest := []) ⟨hx, hb, hml, hown, hts⟩ (c_X7_isCell l D cI cZ cW  p0 _ hf) ⟨callB_of 1 hts (gA tw_814) rfl rfl rfl (ht _ tw_7) (ht _ tw_812) hd_X7_isCell ⟨Nat.le_of_ble_eq_true rfl, Nat.le_of_ble_eq_true rfl⟩, ht _ tw_813⟩ ⟨PR_blind, fun U hU hW => PR_mk hPc hK hU hW⟩ rfl rfl hl.1 rfl (lv_room (Nat.le_of_ble_eq_true rfl)) dX7_cell_1 ⟨Nat.zero_le _, Nat.zero_le _⟩) (fun r_1 hf => ?_)
  refine lv_if_ne (tgt := 9) hx hb dX7_cell_4 (by decide) (fun c_2 => ?_) (fun c_2 => ?_)
  · have hf := hf.1 c_2
    refine lv_aload_n hx hb dX7_cell_9 rfl (lv_at hl 0 rfl) ?_
    refine va_get (D := D) (ci := 5) (v := .ref (q0 4)) (C := RX7) (T := TX7) (N := 28) hx hb ht inX7 hown hK hP 0 eM_0 rfl 5 (by decide) (ht _ tw_660) (fun _ h9 => h9) rfl dX7_cell_10 ?_
    refine lv_iload_n hx hb dX7_cell_13 rfl (lv_at hl 1 rfl) ?_
    obtain ⟨hi_3, hf⟩ := hf
    refine va_iald hx hb hK hP 4 0 eM_4 rfl hi_3 dX7_cell_14 ?_
    refine lv_topi (fun x3_4 ex3_4 => ?_)
    have hf := hf x3_4 ex3_4
    refine lv_istore_n (lv' := [(3, .int x3_4), (0, .ref (q0 0)), (1, .int p0), (2, .int p1)]) hx hb dX7_cell_15 rfl hl (by decide) rfl (fun ls hl => ?_)
    refine lv_iload_n hx hb dX7_cell_16 rfl (lv_at hl 3 rfl) ?_
    by_cases c_5 : p1 = (0 : Int32)
    · have hf := hf.1 c_5
      refine lv_tableIn (off := 27) (tgt := 44) hx hb dX7_cell_17 (by rw [c_5]; decide) (by rw [c_5]; decide) (by rw [c_5]; first | done | rfl) (by decide) ?_
      refine lv_iload_n hx hb dX7_cell_44 rfl (lv_at hl 0 rfl) ?_
      refine lv_bipush (v := (7 : Int32)) hx hb dX7_cell_45 (by decide) ?_
      refine lv_icmp_ne (tgt := 54) hx hb dX7_cell_47 (by decide) (fun c_6 => ?_) (fun c_6 => ?_)
      · have hf := hf.1 c_6
        refine lv_iload_n hx hb dX7_cell_54 rfl (lv_at hl 0 rfl) ?_
        refine lv_bipush (v := (8 : Int32)) hx hb dX7_cell_55 (by decide) ?_
        refine lv_icmp_ne (tgt := 64) hx hb dX7_cell_57 (by decide) (fun c_7 => ?_) (fun c_7 => ?_)
        · have hf := hf.1 c_7
          refine lv_iconst (v := (1 : Int32)) hx hb dX7_cell_64 (by decide) ?_
          exact W.iret (v := (1 : Int32)) hx hb hr (fun t ht hW => ⟨(1 : Int32), rfl, hf, ht⟩) (fun q h => absurd h List.not_mem_nil) dX7_cell_65
        · have hf := hf.2 c_7
          refine lv_iconst (v := (2 : Int32)) hx hb dX7_cell_60 (by decide) ?_
          refine lv_goto (tgt := 65) hx hb dX7_cell_61 (by decide) ?_
          exact W.iret (v := (2 : Int32)) hx hb hr (fun t ht hW => ⟨(2 : Int32), rfl, hf, ht⟩) (fun q h => absurd h List.not_mem_nil) dX7_cell_65
      · have hf := hf.2 c_6
        refine lv_iconst (v := (0 : Int32)) hx hb dX7_cell_50 (by decide) ?_
        refine lv_goto (tgt := 65) hx hb dX7_cell_51 (by decide) ?_
        exact W.iret (v := (0 : Int32)) hx hb hr (fun t ht hW => ⟨(0 : Int32), rfl, hf, ht⟩) (fun q h => absurd h List.not_mem_nil) dX7_cell_65
    · have hf := hf.2 c_5
      by_cases c_8 : p1 = (1 : Int32)
      · have hf := hf.1 c_8
        refine lv_tableIn (off := 49) (tgt := 66) hx hb dX7_cell_17 (by rw [c_8]; decide) (by rw [c_8]; decide) (by rw [c_8]; first | done | rfl) (by decide) ?_
        refine lv_iload_n hx hb dX7_cell_66 rfl (lv_at hl 0 rfl) ?_
        refine lv_bipush (v := (7 : Int32)) hx hb dX7_cell_67 (by decide) ?_
        refine lv_icmp_ge (tgt := 76) hx hb dX7_cell_69 (by decide) (fun c_9 => ?_) (fun c_9 => ?_)
        · have hf := hf.1 c_9
          refine lv_bipush (v := (-9 : Int32)) hx hb dX7_cell_76 (by decide) ?_
          exact W.iret (v := (-9 : Int32)) hx hb hr (fun t ht hW => ⟨(-9 : Int32), rfl, hf, ht⟩) (fun q h => absurd h List.not_mem_nil) dX7_cell_78
        · have hf := hf.2 c_9
          refine lv_iload_n hx hb dX7_cell_72 rfl (lv_at hl 0 rfl) ?_
          refine lv_goto (tgt := 78) hx hb dX7_cell_73 (by decide) ?_
          exact W.iret (v := x3_4) hx hb hr (fun t ht hW => ⟨x3_4, rfl, hf, ht⟩) (fun q h => absurd h List.not_mem_nil) dX7_cell_78
      · have hf := hf.2 c_8
        by_cases c_10 : p1 = (2 : Int32)
        · have hf := hf.1 c_10
          refine lv_tableIn (off := 62) (tgt := 79) hx hb dX7_cell_17 (by rw [c_10]; decide) (by rw [c_10]; decide) (by rw [c_10]; first | done | rfl) (by decide) ?_
          refine lv_aload_n hx hb dX7_cell_79 rfl (lv_at hl 1 rfl) ?_
          refine lv_iconst (v := (0 : Int32)) hx hb dX7_cell_80 (by decide) ?_
          refine lv_iload_n hx hb dX7_cell_81 rfl (lv_at hl 2 rfl) ?_
          have hPc : va_P D classes (wM cI cZ q0 s0) s.heap := hP
          refine vp_callSi (W.runV (As := [.int (0 : Int32), .int p0]) (rest := []) ⟨hx, hb, hml, hown, hts⟩ (c_X7_ownerOf l D cI cZ cW q0 (0 : Int32) p0 s0 _ hf) ⟨callB_of 2 hts (gA tw_792) rfl rfl rfl (ht _ tw_7) (ht _ tw_789) hd_X7_ownerOf ⟨Nat.le_of_ble_eq_true rfl, Nat.le_of_ble_eq_true rfl⟩, ht _ tw_791, ht _ twp_23⟩ ⟨PR_blind, va_recv hK hP (ci := 5) (q0 := 0) rfl eM_0, fun U hU hW => PR_mk hPc hK hU hW⟩ rfl rfl hl.1 rfl (lv_room (Nat.le_of_ble_eq_true rfl)) dX7_cell_82 ⟨Nat.zero_le _, Nat.zero_le _⟩) (fun r_11 hf => ?_)
          exact W.iret (v := r_11) hx hb hr (fun t ht hW => ⟨r_11, rfl, hf, ht⟩) (fun q h => absurd h List.not_mem_nil) dX7_cell_85
        · have hf := hf.2 c_10
          refine lv_tableOut (tgt := 86) hx hb dX7_cell_17 (by have h0 := lv_neT (a := 0) c_5 (by decide); have h1 := lv_neT (a := 1) c_8 (by decide); have h2 := lv_neT (a := 2) c_10 (by decide); omega) (by decide) ?_
          refine lv_bipush (v := (-2 : Int32)) hx hb dX7_cell_86 (by decide) ?_
          exact W.iret (v := (-2 : Int32)) hx hb hr (fun t ht hW => ⟨(-2 : Int32), rfl, hf, ht⟩) (fun q h => absurd h List.not_mem_nil) dX7_cell_88
  · have hf := hf.2 c_2
    refine lv_iconst (v := (-1 : Int32)) hx hb dX7_cell_7 (by decide) ?_
    exact W.iret (v := (-1 : Int32)) hx hb hr (fun t ht hW => ⟨(-1 : Int32), rfl, hf, ht⟩) (fun q h => absurd h List.not_mem_nil) dX7_cell_8
def B_X7_keepAct_68  (t0 : Int32) (s0 : CS) (Q : CS → Prop) : Prop := ∀ s0_1 : CS, s0_1 = sI s0 17 t0 → Q s0_1
def LB_X7_keepAct_2 (G2 : (Int32 × CS) → Prop)  (x1 : Int32) (s0 : CS) (Q : CS → Prop) : Prop := (((35 : Int32) ≤ x1 → ∀ s0_3 : CS, s0_3 = sI s0 18 (((s0.1 18) + (1 : Int32)) - ((s0.1 18) + (1 : Int32)) / (14 : Int32) * (14 : Int32)) → (((14 : Int32) ≤ (s0_3.1 17) → B_X7_keepAct_68  (14 : Int32) s0_3 Q) ∧ (¬ (14 : Int32) ≤ (s0_3.1 17) → B_X7_keepAct_68  ((s0_3.1 17) + (1 : Int32)) s0_3 Q))) ∧ (¬ (35 : Int32) ≤ x1 → vp_in x1 70 ∧ vp_in (((35 : Int32) * (s0.1 18)) + x1) 490 ∧ ∀ s0_7 : CS, s0_7 = sA s0 19 (((35 : Int32) * (s0.1 18)) + x1).toNatClampNeg ((s0.2.1 5) x1.toNatClampNeg) → ∀ x1_8 : Int32, x1_8 = x1 + (1 : Int32) → G2 (x1_8, s0_7)))
def B_X7_keepAct_2  (x1 : Int32) (s0 : CS) (Q : CS → Prop) : Prop := LOOP (fun (G2 : (Int32 × CS) → Prop) z => LB_X7_keepAct_2 G2  z.1 z.2 Q) (x1, s0)
def wp_X7_keepAct (s0 : CS) (Q : CS → Prop) : Prop := B_X7_keepAct_2  (0 : Int32) s0 Q
set_option maxHeartbeats 4000000 in
set_option maxRecDepth 100000 in
theorem c_X7_keepAct (l : Launch) (D : va_G) (cI cZ cW : ClassId) (q0 : Nat → Nat) (sz : Nat) (s0 : CS) (Q : CS → Prop) (hf : wp_X7_keepAct s0 Q) : Met l yX7_keepAct (wsA yX7_keepAct cX7_keepAct 2 none) ({ frames := 0, cells := 0, slots := 0, locals := 0 }) (PW D cI cZ cW [.ref (q0 0)] (wM cI cZ q0 s0) sz) (va_Qv (fun (u : CS) => Q u) (fun u t => va_P D classes (wM cI cZ q0 u) t.heap) (va_A (wM cI cZ q0 s0) sz)) 0 0 (va_A (wM cI cZ q0 s0) sz) := by
  refine Met.ofW (cc := cX7_keepAct) (maxL := 2) (ret := none) (by decide) rfl ?_
  intro p e s m args below meth c s₁ B hml hv
  obtain ⟨rfl, hsz, hP, hK, hD0⟩ := hv
  have hx := B.exec
  have hb := B.bytes
  have hr := B.returns
  have hts := atoms_spec (ws := (wsA yX7_keepAct cX7_keepAct 2 none)) B.pre
  have ht : ∀ w ∈ lw_g, w.before _ s = true := fun w h => hts w (List.mem_cons_of_mem _ h)
  have hown : s.vm.findClass RX7 = some m.cls := findClass_of_methodNamed B.named
  have hlocks := B.notSynchronized
  subst hsz
  have hD := hD0.self (sz := s.heap.size)
  generalize hAe : va_A (wM cI cZ q0 s0) s.heap.size = A at hD ⊢
  have hA : ∀ q : Nat, s.heap.size ≤ q → A q := fun q h => by rw [← hAe]; exact Or.inr h
  have hS : va_S A s.heap s.heap [] := va_S.rf
  have hDk : ∀ w : CS, va_D A (wM cI cZ q0 w) := fun w => D_M hD
  have hl := lv_entry ([.ref (q0 0)]) (n := 2) (Nat.le_of_ble_eq_true rfl)
  rw [lg_entry_eq]
  generalize (lg_sl ([.ref (q0 0)]) ++ List.replicate (2 - (lg_sl ([.ref (q0 0)])).length) Slot.unset).toArray = ls at hl ⊢
  have hl : lv_has ls 2 [(0, .ref (q0 0))] := hl
  unfold wp_X7_keepAct at hf
  have k_68 : ∀ (t0 : Int32) (s0 : CS) (H : Heap) (locs : List Loc) (ls : Array Slot), B_X7_keepAct_68  t0 s0 Q → va_P D classes (wM cI cZ q0 s0) H → va_D A (wM cI cZ q0 s0) → va_S A s.heap H locs → lv_has ls 2 [] → W p l e (headSpec (wsA yX7_keepAct cX7_keepAct 2 none) ({ frames := 0, cells := 0, slots := 0, locals := 0 })).room s m (#[.ref (q0 0)] : Array Value) below meth c H locs 0 0 (MQ below (va_Qv (fun (u : CS) => Q u) (fun u t => va_P D classes (wM cI cZ q0 u) t.heap) A) (#[.ref (q0 0)] : Array Value) s 0 0 A) (F0 m 68 ls [.int t0, .ref (q0 0)]) := by
    intro t0 s0 H locs ls hf hP hD hS hl
    unfold B_X7_keepAct_68 at hf
    refine va_put (D := D) (ci := 5) (v := .int t0) (ty := .int) (C := RX7) (T := TX7) (N := 28) hx hb ht inX7 tyX7 tyX7_ok nmX7 hown hK hP hD hS 0 eM_0 rfl 17 (by decide) (ht _ tw_672) (fun _ h9 => h9) rfl pf_I rfl rfl (Nat.le_of_ble_eq_true rfl) dX7_keepAct_68 (fun H locs hP hD hS => ?_)
    obtain ⟨s0_1, es0_1⟩ : ∃ y : CS, y = sI s0 17 t0 := ⟨_, rfl⟩
    have hf := hf s0_1 es0_1
    have hD := hDk s0_1
    have hP : va_P D classes (wM cI cZ q0 s0_1) H := by rw [es0_1]; exact PM_I17 hP
    exact W.vret hx hb hr (fun t ht hW => ⟨⟨s0_1, rfl, hf, P_heap ht hP⟩, hS.F ht⟩) hS.2.2 dX7_keepAct_71
  have k_2 : ∀ (x1 : Int32) (s0 : CS) (H : Heap) (locs : List Loc) (ls : Array Slot), B_X7_keepAct_2  x1 s0 Q → va_P D classes (wM cI cZ q0 s0) H → va_D A (wM cI cZ q0 s0) → va_S A s.heap H locs → lv_has ls 2 [(0, .ref (q0 0)), (1, .int x1)] → W p l e (headSpec (wsA yX7_keepAct cX7_keepAct 2 none) ({ frames := 0, cells := 0, slots := 0, locals := 0 })).room s m (#[.ref (q0 0)] : Array Value) below meth c H locs 0 0 (MQ below (va_Qv (fun (u : CS) => Q u) (fun u t => va_P D classes (wM cI cZ q0 u) t.heap) A) (#[.ref (q0 0)] : Array Value) s 0 0 A) (F0 m 2 ls []) := by
    intro x1 s0 H locs ls hf hP hD hS hl
    unfold B_X7_keepAct_2 at hf
    obtain ⟨I_2, ⟨n0_2, hI0_2⟩, hst_2⟩ := hf
    have main_2 : ∀ (n : Nat) (x1 : Int32) (s0 : CS) (H : Heap) (locs : List Loc) (ls : Array Slot), I_2 n (x1, s0) → va_P D classes (wM cI cZ q0 s0) H → va_D A (wM cI cZ q0 s0) → va_S A s.heap H locs → lv_has ls 2 [(0, .ref (q0 0)), (1, .int x1)] → W p l e (headSpec (wsA yX7_keepAct cX7_keepAct 2 none) ({ frames := 0, cells := 0, slots := 0, locals := 0 })).room s m (#[.ref (q0 0)] : Array Value) below meth c H locs 0 0 (MQ below (va_Qv (fun (u : CS) => Q u) (fun u t => va_P D classes (wM cI cZ q0 u) t.heap) A) (#[.ref (q0 0)] : Array Value) s 0 0 A) (F0 m 2 ls []) := by
      intro n
      induction n using Nat.strongRecOn with
      | _ n_2 ih_2 =>
      intro x1 s0 H locs ls hI hP hD hS hl
      have hf : LB_X7_keepAct_2 (fun z => ∃ k, k < n_2 ∧ I_2 k z)  x1 s0 Q := hst_2 n_2 (x1, s0) hI
      have hG_2 : ∀ (x1 : Int32) (s0 : CS) (H : Heap) (locs : List Loc) (ls : Array Slot), (∃ k, k < n_2 ∧ I_2 k (x1, s0)) → va_P D classes (wM cI cZ q0 s0) H → va_D A (wM cI cZ q0 s0) → va_S A s.heap H locs → lv_has ls 2 [(0, .ref (q0 0)), (1, .int x1)] → W p l e (headSpec (wsA yX7_keepAct cX7_keepAct 2 none) ({ frames := 0, cells := 0, slots := 0, locals := 0 })).room s m (#[.ref (q0 0)] : Array Value) below meth c H locs 0 0 (MQ below (va_Qv (fun (u : CS) => Q u) (fun u t => va_P D classes (wM cI cZ q0 u) t.heap) A) (#[.ref (q0 0)] : Array Value) s 0 0 A) (F0 m 2 ls []) := by
        rintro x1 s0 H locs ls ⟨k, hk, hI⟩ hP hD hS hl
        exact ih_2 k hk x1 s0 H locs ls hI hP hD hS hl
      unfold LB_X7_keepAct_2 at hf
      refine lv_iload_n hx hb dX7_keepAct_2 rfl (lv_at hl 1 rfl) ?_
      refine lv_bipush (v := (35 : Int32)) hx hb dX7_keepAct_3 (by decide) ?_
      refine lv_icmp_ge (tgt := 34) hx hb dX7_keepAct_5 (by decide) (fun c_2 => ?_) (fun c_2 => ?_)
      · have hf := hf.1 c_2
        refine lv_aload_n hx hb dX7_keepAct_34 rfl (lv_at hl 0 rfl) ?_
        refine lv_aload_n hx hb dX7_keepAct_35 rfl (lv_at hl 0 rfl) ?_
        refine va_get (D := D) (ci := 5) (v := .int (s0.1 18)) (C := RX7) (T := TX7) (N := 28) hx hb ht inX7 hown hK hP 0 eM_0 rfl 18 (by decide) (ht _ tw_673) (fun _ h9 => h9) rfl dX7_keepAct_36 ?_
        refine lv_iconst (v := (1 : Int32)) hx hb dX7_keepAct_39 (by decide) ?_
        refine lv_iadd hx hb dX7_keepAct_40 ?_
        refine lv_bipush (v := (14 : Int32)) hx hb dX7_keepAct_41 (by decide) ?_
        refine lv_irem hx hb dX7_keepAct_43 (by decide) ?_
        refine va_put (D := D) (ci := 5) (v := .int (((s0.1 18) + (1 : Int32)) - ((s0.1 18) + (1 : Int32)) / (14 : Int32) * (14 : Int32))) (ty := .int) (C := RX7) (T := TX7) (N := 28) hx hb ht inX7 tyX7 tyX7_ok nmX7 hown hK hP hD hS 0 eM_0 rfl 18 (by decide) (ht _ tw_673) (fun _ h9 => h9) rfl pf_I rfl rfl (Nat.le_of_ble_eq_true rfl) dX7_keepAct_44 (fun H locs hP hD hS => ?_)
        obtain ⟨s0_3, es0_3⟩ : ∃ y : CS, y = sI s0 18 (((s0.1 18) + (1 : Int32)) - ((s0.1 18) + (1 : Int32)) / (14 : Int32) * (14 : Int32)) := ⟨_, rfl⟩
        have hf := hf s0_3 es0_3
        have hD := hDk s0_3
        have hP : va_P D classes (wM cI cZ q0 s0_3) H := by rw [es0_3]; exact PM_I18 hP
        refine lv_aload_n hx hb dX7_keepAct_47 rfl (lv_at hl 0 rfl) ?_
        refine lv_aload_n hx hb dX7_keepAct_48 rfl (lv_at hl 0 rfl) ?_
        refine va_get (D := D) (ci := 5) (v := .int (s0_3.1 17)) (C := RX7) (T := TX7) (N := 28) hx hb ht inX7 hown hK hP 0 eM_0 rfl 17 (by decide) (ht _ tw_672) (fun _ h9 => h9) rfl dX7_keepAct_49 ?_
        refine lv_bipush (v := (14 : Int32)) hx hb dX7_keepAct_52 (by decide) ?_
        refine lv_icmp_ge (tgt := 66) hx hb dX7_keepAct_54 (by decide) (fun c_4 => ?_) (fun c_4 => ?_)
        · have hf := hf.1 c_4
          refine lv_bipush (v := (14 : Int32)) hx hb dX7_keepAct_66 (by decide) ?_
          exact k_68 (14 : Int32) s0_3 H locs ls hf hP hD hS (lv_sub hl [] rfl)
        · have hf := hf.2 c_4
          refine lv_aload_n hx hb dX7_keepAct_57 rfl (lv_at hl 0 rfl) ?_
          refine va_get (D := D) (ci := 5) (v := .int (s0_3.1 17)) (C := RX7) (T := TX7) (N := 28) hx hb ht inX7 hown hK hP 0 eM_0 rfl 17 (by decide) (ht _ tw_672) (fun _ h9 => h9) rfl dX7_keepAct_58 ?_
          refine lv_iconst (v := (1 : Int32)) hx hb dX7_keepAct_61 (by decide) ?_
          refine lv_iadd hx hb dX7_keepAct_62 ?_
          refine lv_goto (tgt := 68) hx hb dX7_keepAct_63 (by decide) ?_
          exact k_68 ((s0_3.1 17) + (1 : Int32)) s0_3 H locs ls hf hP hD hS (lv_sub hl [] rfl)
      · have hf := hf.2 c_2
        refine lv_aload_n hx hb dX7_keepAct_8 rfl (lv_at hl 0 rfl) ?_
        refine va_get (D := D) (ci := 5) (v := .ref (q0 9)) (C := RX7) (T := TX7) (N := 28) hx hb ht inX7 hown hK hP 0 eM_0 rfl 19 (by decide) (ht _ tw_674) (fun _ h9 => h9) rfl dX7_keepAct_9 ?_
        refine lv_bipush (v := (35 : Int32)) hx hb dX7_keepAct_12 (by decide) ?_
        refine lv_aload_n hx hb dX7_keepAct_14 rfl (lv_at hl 0 rfl) ?_
        refine va_get (D := D) (ci := 5) (v := .int (s0.1 18)) (C := RX7) (T := TX7) (N := 28) hx hb ht inX7 hown hK hP 0 eM_0 rfl 18 (by decide) (ht _ tw_673) (fun _ h9 => h9) rfl dX7_keepAct_15 ?_
        refine lv_imul hx hb dX7_keepAct_18 ?_
        refine lv_iload_n hx hb dX7_keepAct_19 rfl (lv_at hl 1 rfl) ?_
        refine lv_iadd hx hb dX7_keepAct_20 ?_
        refine lv_aload_n hx hb dX7_keepAct_21 rfl (lv_at hl 0 rfl) ?_
        refine va_get (D := D) (ci := 5) (v := .ref (q0 4)) (C := RX7) (T := TX7) (N := 28) hx hb ht inX7 hown hK hP 0 eM_0 rfl 5 (by decide) (ht _ tw_660) (fun _ h9 => h9) rfl dX7_keepAct_22 ?_
        refine lv_iload_n hx hb dX7_keepAct_25 rfl (lv_at hl 1 rfl) ?_
        obtain ⟨hi_5, hf⟩ := hf
        refine va_iald hx hb hK hP 4 0 eM_4 rfl hi_5 dX7_keepAct_26 ?_
        obtain ⟨hi_6, hf⟩ := hf
        refine va_iast hx hb hK hP hD hS 9 0 eM_9 rfl hi_6 dX7_keepAct_27 (fun H locs hP hD hS => ?_)
        obtain ⟨s0_7, es0_7⟩ : ∃ y : CS, y = sA s0 19 (((35 : Int32) * (s0.1 18)) + x1).toNatClampNeg ((s0.2.1 5) x1.toNatClampNeg) := ⟨_, rfl⟩
        have hf := hf s0_7 es0_7
        have hD := hDk s0_7
        have hP : va_P D classes (wM cI cZ q0 s0_7) H := by rw [es0_7]; exact PM_F19 hP
        obtain ⟨x1_8, ex1_8⟩ : ∃ y : Int32, y = x1 + (1 : Int32) := ⟨_, rfl⟩
        have hf := hf x1_8 ex1_8
        refine lv_iinc (v := x1_8) (lv' := [(1, .int x1_8), (0, .ref (q0 0))]) hx hb dX7_keepAct_28 hl (k := 1) rfl (by rw [ex1_8]; rfl) (by decide) rfl (fun ls hl => ?_)
        refine lv_goto (tgt := 2) hx hb dX7_keepAct_31 (by decide) ?_
        exact hG_2 x1_8 s0_7 H locs ls hf hP hD hS (lv_sub hl [1, 0] rfl)
    exact main_2 n0_2 x1 s0 H locs ls hI0_2 hP hD hS hl
  have start : ∀ (H : Heap) (locs : List Loc), va_P D classes (wM cI cZ q0 s0) H → va_D A (wM cI cZ q0 s0) → va_S A s.heap H locs → W p l e (headSpec (wsA yX7_keepAct cX7_keepAct 2 none) ({ frames := 0, cells := 0, slots := 0, locals := 0 })).room s m (#[.ref (q0 0)] : Array Value) below meth c H locs 0 0 (MQ below (va_Qv (fun (u : CS) => Q u) (fun u t => va_P D classes (wM cI cZ q0 u) t.heap) A) (#[.ref (q0 0)] : Array Value) s 0 0 A) (F0 m 0 ls []) := by
    intro H locs hP hD hS
    refine lv_iconst (v := (0 : Int32)) hx hb dX7_keepAct_0 (by decide) ?_
    refine lv_istore_n (lv' := [(1, .int (0 : Int32)), (0, .ref (q0 0))]) hx hb dX7_keepAct_1 rfl hl (by decide) rfl (fun ls hl => ?_)
    exact k_2 (0 : Int32) s0 H locs ls hf hP hD hS (lv_sub hl [1, 0] rfl)
  exact start s.heap [] hP hD hS
def wp_X7_day (s0 : CS) (Q : Int32 → CS → Prop) : Prop := wp_X7_keepAct s0 (fun s0_1 => wp_X7_passOn (0 : Int32) s0_1 (fun r_3 s0_2 => Q r_3 s0_2))
set_option maxHeartbeats 4000000 in
set_option maxRecDepth 100000 in
theorem c_X7_day (l : Launch) (D : va_G) (cI cZ cW : ClassId) (q0 : Nat → Nat) (sz : Nat) (s0 : CS) (Q : Int32 → CS → Prop) (hf : wp_X7_day s0 Q) : Met l yX7_day (wsA yX7_day cX7_day 1 (some .int)) ({ frames := 5, cells := 0, slots := 0, locals := 117 }) (PW D cI cZ cW [.ref (q0 0)] (wM cI cZ q0 s0) sz) (va_Qi (fun (r : Int32) (u : CS) => Q r u) (fun u t => va_P D classes (wM cI cZ q0 u) t.heap) (va_A (wM cI cZ q0 s0) sz)) 0 0 (va_A (wM cI cZ q0 s0) sz) := by
  refine Met.ofW (cc := cX7_day) (maxL := 1) (ret := (some .int)) (by decide) rfl ?_
  intro p e s m args below meth c s₁ B hml hv
  obtain ⟨rfl, hsz, hP, hK, hD0⟩ := hv
  have hx := B.exec
  have hb := B.bytes
  have hr := B.returns
  have hts := atoms_spec (ws := (wsA yX7_day cX7_day 1 (some .int))) B.pre
  have ht : ∀ w ∈ lw_g, w.before _ s = true := fun w h => hts w (List.mem_cons_of_mem _ h)
  have hown : s.vm.findClass RX7 = some m.cls := findClass_of_methodNamed B.named
  have hlocks := B.notSynchronized
  subst hsz
  have hD := hD0.self (sz := s.heap.size)
  generalize hAe : va_A (wM cI cZ q0 s0) s.heap.size = A at hD ⊢
  have hA : ∀ q : Nat, s.heap.size ≤ q → A q := fun q h => by rw [← hAe]; exact Or.inr h
  have hS : va_S A s.heap s.heap [] := va_S.rf
  have hDk : ∀ w : CS, va_D A (wM cI cZ q0 w) := fun w => D_M hD
  have hl := lv_entry ([.ref (q0 0)]) (n := 1) (Nat.le_of_ble_eq_true rfl)
  rw [lg_entry_eq]
  generalize (lg_sl ([.ref (q0 0)]) ++ List.replicate (1 - (lg_sl ([.ref (q0 0)])).length) Slot.unset).toArray = ls at hl ⊢
  have hl : lv_has ls 1 [(0, .ref (q0 0))] := hl
  unfold wp_X7_day at hf
  have start : ∀ (H : Heap) (locs : List Loc), va_P D classes (wM cI cZ q0 s0) H → va_D A (wM cI cZ q0 s0) → va_S A s.heap H locs → W p l e (headSpec (wsA yX7_day cX7_day 1 (some .int)) ({ frames := 5, cells := 0, slots := 0, locals := 117 })).room s m (#[.ref (q0 0)] : Array Value) below meth c H locs 0 0 (MQ below (va_Qi (fun (r : Int32) (u : CS) => Q r u) (fun u t => va_P D classes (wM cI cZ q0 u) t.heap) A) (#[.ref (q0 0)] : Array Value) s 0 0 A) (F0 m 0 ls []) := by
    intro H locs hP hD hS
    refine lv_aload_n hx hb dX7_day_0 rfl (lv_at hl 0 rfl) ?_
    have hPc : va_P D classes (wM cI cZ q0 s0) H := hP
    have hDc : va_D A (wM cI cZ q0 s0) := hD
    have hFc := va_free (wc := (wM cI cZ q0 s0)) hD hS hA [0, 1, 2, 3, 4, 5, 6, 7, 8, 9, 10, 11, 12, 13, 14, 15] rfl
    refine va_callv (va_runV (As := []) (rest := []) ⟨hx, hb, hml, hown, hts⟩ (c_X7_keepAct l D cI cZ cW q0 H.size s0 _ hf) ⟨callB_of 0 hts (gA tw_822) rfl rfl rfl (ht _ tw_7) (ht _ tw_819) hd_X7_keepAct ⟨Nat.le_of_ble_eq_true rfl, Nat.le_of_ble_eq_true rfl⟩, ht _ tw_821, ht _ twp_26⟩ ⟨PW_blind, va_recv hK hP (ci := 5) (q0 := 0) rfl eM_0, fun U hU hW => PW_mk hPc hDc hK hU hW⟩ rfl rfl hl.1 rfl (lv_room (Nat.le_of_ble_eq_true rfl)) dX7_day_1 ⟨Nat.zero_le _, Nat.zero_le _⟩) hS (fun q _ h => hFc q h) hFc (fun u t H1 locs ht1 hvm hf hB hz1 hk1 hS => ?_)
    obtain ⟨s0_1, rfl⟩ : ∃ z, z = u := ⟨_, rfl⟩
    rw [ht1] at hB
    have hP := hB
    have hD := hDk s0_1
    generalize H1 = H at hP hS ⊢
    have hP : va_P D classes (wM cI cZ q0 s0_1) H := hP
    have hD : va_D A (wM cI cZ q0 s0_1) := hD
    refine lv_aload_n hx hb dX7_day_4 rfl (lv_at hl 0 rfl) ?_
    refine lv_iconst (v := (0 : Int32)) hx hb dX7_day_5 (by decide) ?_
    have hPc : va_P D classes (wM cI cZ q0 s0_1) H := hP
    have hDc : va_D A (wM cI cZ q0 s0_1) := hD
    have hFc := va_free (wc := (wM cI cZ q0 s0_1)) hD hS hA [0, 1, 2, 3, 4, 5, 6, 7, 8, 9, 10, 11, 12, 13, 14, 15] rfl
    refine va_calli (va_runV (As := [.int (0 : Int32)]) (rest := []) ⟨hx, hb, hml, hown, hts⟩ (c_X7_passOn l D cI cZ cW q0 H.size (0 : Int32) s0_1 _ hf) ⟨callB_of 1 hts (gA tw_826) rfl rfl rfl (ht _ tw_7) (ht _ tw_823) hd_X7_passOn ⟨Nat.le_of_ble_eq_true rfl, Nat.le_of_ble_eq_true rfl⟩, ht _ tw_825, ht _ twp_27⟩ ⟨PW_blind, va_recv hK hP (ci := 5) (q0 := 0) rfl eM_0, fun U hU hW => PW_mk hPc hDc hK hU hW⟩ rfl rfl hl.1 rfl (lv_room (Nat.le_of_ble_eq_true rfl)) dX7_day_6 ⟨Nat.zero_le _, Nat.zero_le _⟩) hS (fun q _ h => hFc q h) hFc (fun r_3 u t H1 locs ht1 hvm hf hB hz1 hk1 hS => ?_)
    obtain ⟨s0_2, rfl⟩ : ∃ z, z = u := ⟨_, rfl⟩
    rw [ht1] at hB
    have hP := hB
    have hD := hDk s0_2
    generalize H1 = H at hP hS ⊢
    have hP : va_P D classes (wM cI cZ q0 s0_2) H := hP
    have hD : va_D A (wM cI cZ q0 s0_2) := hD
    exact W.iret (v := r_3) hx hb hr (fun t ht hW => ⟨⟨r_3, s0_2, rfl, hf, P_heap ht hP⟩, hS.F ht⟩) hS.2.2 dX7_day_9
  exact start s.heap [] hP hD hS
def wp_X7_canEat (p0 : Int32) (p1 : Int32) (p2 : Int32) (s0 : CS) (Q : Int32 → Prop) : Prop := wp_X7_isOwner p1 s0 (fun r_1 => ((r_1 = 0 → Q (0 : Int32)) ∧ (¬ r_1 = 0 → wp_X7_isCell p2 (fun r_3 => ((r_3 = 0 → Q (0 : Int32)) ∧ (¬ r_3 = 0 → vp_in (((35 : Int32) * p0) + p2) 70 ∧ ((((s0.2.1 5) (((35 : Int32) * p0) + p2).toNatClampNeg) = (8 : Int32) → Q (0 : Int32)) ∧ (¬ ((s0.2.1 5) (((35 : Int32) * p0) + p2).toNatClampNeg) = (8 : Int32) → Q (1 : Int32)))))))))
set_option maxHeartbeats 4000000 in
set_option maxRecDepth 100000 in
theorem c_X7_canEat (l : Launch) (D : va_G) (cI cZ cW : ClassId) (q0 : Nat → Nat) (p0 : Int32) (p1 : Int32) (p2 : Int32) (s0 : CS) (Q : Int32 → Prop) (hf : wp_X7_canEat p0 p1 p2 s0 Q) : Met l yX7_canEat (wsA yX7_canEat cX7_canEat 4 (some .boolean)) ({ frames := 2, cells := 0, slots := 0, locals := 46 }) (PR D cI cZ cW [.ref (q0 0), .int p0, .int p1, .int p2] (wM cI cZ q0 s0)) (vp_Si Q) 0 0 (fun _ => False) := by
  refine Met.ofW (cc := cX7_canEat) (maxL := 4) (ret := (some .boolean)) (by decide) rfl ?_
  intro p e s m args below meth c s₁ B hml hv
  obtain ⟨rfl, hP, hK⟩ := hv
  have hx := B.exec
  have hb := B.bytes
  have hr := B.returns
  have hts := atoms_spec (ws := (wsA yX7_canEat cX7_canEat 4 (some .boolean))) B.pre
  have ht : ∀ w ∈ lw_g, w.before _ s = true := fun w h => hts w (List.mem_cons_of_mem _ h)
  have hown : s.vm.findClass RX7 = some m.cls := findClass_of_methodNamed B.named
  have hlocks := B.notSynchronized
  have hl := lv_entry ([.ref (q0 0), .int p0, .int p1, .int p2]) (n := 4) (Nat.le_of_ble_eq_true rfl)
  rw [lg_entry_eq]
  generalize (lg_sl ([.ref (q0 0), .int p0, .int p1, .int p2]) ++ List.replicate (4 - (lg_sl ([.ref (q0 0), .int p0, .int p1, .int p2])).length) Slot.unset).toArray = ls at hl ⊢
  have hl : lv_has ls 4 [(0, .ref (q0 0)), (1, .int p0), (2, .int p1), (3, .int p2)] := hl
  unfold wp_X7_canEat at hf
  refine lv_aload_n hx hb dX7_canEat_0 rfl (lv_at hl 0 rfl) ?_
  refine lv_iload_n hx hb dX7_canEat_1 rfl (lv_at hl 2 rfl) ?_
  have hPc : va_P D classes (wM cI cZ q0 s0) s.heap := hP
  refine vp_callSi (W.runV (As := [.int p1]) (rest := []) ⟨hx, hb, hml, hown, hts⟩ (c_X7_isOwner l D cI cZ cW q0 p1 s0 _ hf) ⟨callB_of 1 hts (gA tw_784) rfl rfl rfl (ht _ tw_7) (ht _ tw_781) hd_X7_isOwner ⟨Nat.le_of_ble_eq_true rfl, Nat.le_of_ble_eq_true rfl⟩, ht _ tw_783, ht _ twp_21⟩ ⟨PR_blind, va_recv hK hP (ci := 5) (q0 := 0) rfl eM_0, fun U hU hW => PR_mk hPc hK hU hW⟩ rfl rfl hl.1 rfl (lv_room (Nat.le_of_ble_eq_true rfl)) dX7_canEat_2 ⟨Nat.zero_le _, Nat.zero_le _⟩) (fun r_1 hf => ?_)
  refine lv_if_eq (tgt := 35) hx hb dX7_canEat_5 (by decide) (fun c_2 => ?_) (fun c_2 => ?_)
  · have hf := hf.1 c_2
    refine lv_iconst (v := (0 : Int32)) hx hb dX7_canEat_35 (by decide) ?_
    exact W.zret (v := (0 : Int32)) hx hb hr rfl (fun t ht hW => ⟨(0 : Int32), rfl, hf, ht⟩) (fun q h => absurd h List.not_mem_nil) dX7_canEat_36
  · have hf := hf.2 c_2
    refine lv_iload_n hx hb dX7_canEat_8 rfl (lv_at hl 3 rfl) ?_
    have hPc : va_P D classes ([] : va_W) s.heap := hP.sub [] rfl
    refine vp_callSi (W.runS (As := [.int p2]) (rest := []) ⟨hx, hb, hml, hown, hts⟩ (c_X7_isCell l D cI cZ cW  p2 _ hf) ⟨callB_of 1 hts (gA tw_814) rfl rfl rfl (ht _ tw_7) (ht _ tw_812) hd_X7_isCell ⟨Nat.le_of_ble_eq_true rfl, Nat.le_of_ble_eq_true rfl⟩, ht _ tw_813⟩ ⟨PR_blind, fun U hU hW => PR_mk hPc hK hU hW⟩ rfl rfl hl.1 rfl (lv_room (Nat.le_of_ble_eq_true rfl)) dX7_canEat_9 ⟨Nat.zero_le _, Nat.zero_le _⟩) (fun r_3 hf => ?_)
    refine lv_if_eq (tgt := 35) hx hb dX7_canEat_12 (by decide) (fun c_4 => ?_) (fun c_4 => ?_)
    · have hf := hf.1 c_4
      refine lv_iconst (v := (0 : Int32)) hx hb dX7_canEat_35 (by decide) ?_
      exact W.zret (v := (0 : Int32)) hx hb hr rfl (fun t ht hW => ⟨(0 : Int32), rfl, hf, ht⟩) (fun q h => absurd h List.not_mem_nil) dX7_canEat_36
    · have hf := hf.2 c_4
      refine lv_aload_n hx hb dX7_canEat_15 rfl (lv_at hl 0 rfl) ?_
      refine va_get (D := D) (ci := 5) (v := .ref (q0 4)) (C := RX7) (T := TX7) (N := 28) hx hb ht inX7 hown hK hP 0 eM_0 rfl 5 (by decide) (ht _ tw_660) (fun _ h9 => h9) rfl dX7_canEat_16 ?_
      refine lv_bipush (v := (35 : Int32)) hx hb dX7_canEat_19 (by decide) ?_
      refine lv_iload_n hx hb dX7_canEat_21 rfl (lv_at hl 1 rfl) ?_
      refine lv_imul hx hb dX7_canEat_22 ?_
      refine lv_iload_n hx hb dX7_canEat_23 rfl (lv_at hl 3 rfl) ?_
      refine lv_iadd hx hb dX7_canEat_24 ?_
      obtain ⟨hi_5, hf⟩ := hf
      refine va_iald hx hb hK hP 4 0 eM_4 rfl hi_5 dX7_canEat_25 ?_
      refine lv_bipush (v := (8 : Int32)) hx hb dX7_canEat_26 (by decide) ?_
      refine lv_icmp_eq (tgt := 35) hx hb dX7_canEat_28 (by decide) (fun c_6 => ?_) (fun c_6 => ?_)
      · have hf := hf.1 c_6
        refine lv_iconst (v := (0 : Int32)) hx hb dX7_canEat_35 (by decide) ?_
        exact W.zret (v := (0 : Int32)) hx hb hr rfl (fun t ht hW => ⟨(0 : Int32), rfl, hf, ht⟩) (fun q h => absurd h List.not_mem_nil) dX7_canEat_36
      · have hf := hf.2 c_6
        refine lv_iconst (v := (1 : Int32)) hx hb dX7_canEat_31 (by decide) ?_
        refine lv_goto (tgt := 36) hx hb dX7_canEat_32 (by decide) ?_
        exact W.zret (v := (1 : Int32)) hx hb hr rfl (fun t ht hW => ⟨(1 : Int32), rfl, hf, ht⟩) (fun q h => absurd h List.not_mem_nil) dX7_canEat_36
def B_X7_eatOn_65  (x1 : Int32) (x3 : Int32) (x4 : Int32) (x5 : Int32) (s0 : CS) (Q : Int32 → CS → Prop) : Prop := vp_in (((35 : Int32) * x1) + x3) 70 ∧ ∀ s0_2 : CS, s0_2 = sA s0 5 (((35 : Int32) * x1) + x3).toNatClampNeg (8 : Int32) → ((x5 = (7 : Int32) → Q x4 s0_2) ∧ (¬ x5 = (7 : Int32) → wp_X7_of x1 x5 s0_2 (fun r_4 => ((¬ r_4 = 0 → Q x4 s0_2) ∧ (r_4 = 0 → wp_X7_endHole x1 x5 s0_2 (fun s0_6 => Q x4 s0_6))))))
def B_X7_eatOn_49  (x1 : Int32) (x2 : Int32) (x3 : Int32) (x4 : Int32) (x5 : Int32) (t0 : Int32) (s0 : CS) (Q : Int32 → CS → Prop) : Prop := ((¬ t0 = 0 → B_X7_eatOn_65  x1 x3 x4 x5 s0 Q) ∧ (t0 = 0 → wp_X7_pay x1 x2 x4 (1 : Int32) s0 (fun s0_8 => B_X7_eatOn_65  x1 x3 x4 x5 s0_8 Q)))
def B_X7_eatOn_44  (x1 : Int32) (x2 : Int32) (x3 : Int32) (x4 : Int32) (x5 : Int32) (s0 : CS) (Q : Int32 → CS → Prop) : Prop := B_X7_eatOn_49  x1 x2 x3 x4 x5 (1 : Int32) s0 Q
def B_X7_eatOn_48  (x1 : Int32) (x2 : Int32) (x3 : Int32) (x4 : Int32) (x5 : Int32) (s0 : CS) (Q : Int32 → CS → Prop) : Prop := B_X7_eatOn_49  x1 x2 x3 x4 x5 (0 : Int32) s0 Q
def wp_X7_eatOn (p0 : Int32) (p1 : Int32) (p2 : Int32) (s0 : CS) (Q : Int32 → CS → Prop) : Prop := wp_X7_ownerOf p0 p2 s0 (fun r_9 => vp_in (((35 : Int32) * p0) + p2) 70 ∧ ∀ x5_11 : Int32, x5_11 = ((s0.2.1 5) (((35 : Int32) * p0) + p2).toNatClampNeg) → ((r_9 = p1 → B_X7_eatOn_44  p0 p1 p2 r_9 x5_11 s0 Q) ∧ (¬ r_9 = p1 → ((¬ x5_11 = (7 : Int32) → B_X7_eatOn_48  p0 p1 p2 r_9 x5_11 s0 Q) ∧ (x5_11 = (7 : Int32) → vp_in p1 4 ∧ ((¬ ((s0.2.1 2) p1.toNatClampNeg) = (2 : Int32) → B_X7_eatOn_48  p0 p1 p2 r_9 x5_11 s0 Q) ∧ (((s0.2.1 2) p1.toNatClampNeg) = (2 : Int32) → B_X7_eatOn_44  p0 p1 p2 r_9 x5_11 s0 Q)))))))
set_option maxHeartbeats 4000000 in
set_option maxRecDepth 100000 in
theorem c_X7_eatOn (l : Launch) (D : va_G) (cI cZ cW : ClassId) (q0 : Nat → Nat) (sz : Nat) (p0 : Int32) (p1 : Int32) (p2 : Int32) (s0 : CS) (Q : Int32 → CS → Prop) (hf : wp_X7_eatOn p0 p1 p2 s0 Q) : Met l yX7_eatOn (wsA yX7_eatOn cX7_eatOn 7 (some .int)) ({ frames := 1, cells := 0, slots := 0, locals := 24 }) (PW D cI cZ cW [.ref (q0 0), .int p0, .int p1, .int p2] (wM cI cZ q0 s0) sz) (va_Qi (fun (r : Int32) (u : CS) => Q r u) (fun u t => va_P D classes (wM cI cZ q0 u) t.heap) (va_A (wM cI cZ q0 s0) sz)) 0 0 (va_A (wM cI cZ q0 s0) sz) := by
  refine Met.ofW (cc := cX7_eatOn) (maxL := 7) (ret := (some .int)) (by decide) rfl ?_
  intro p e s m args below meth c s₁ B hml hv
  obtain ⟨rfl, hsz, hP, hK, hD0⟩ := hv
  have hx := B.exec
  have hb := B.bytes
  have hr := B.returns
  have hts := atoms_spec (ws := (wsA yX7_eatOn cX7_eatOn 7 (some .int))) B.pre
  have ht : ∀ w ∈ lw_g, w.before _ s = true := fun w h => hts w (List.mem_cons_of_mem _ h)
  have hown : s.vm.findClass RX7 = some m.cls := findClass_of_methodNamed B.named
  have hlocks := B.notSynchronized
  subst hsz
  have hD := hD0.self (sz := s.heap.size)
  generalize hAe : va_A (wM cI cZ q0 s0) s.heap.size = A at hD ⊢
  have hA : ∀ q : Nat, s.heap.size ≤ q → A q := fun q h => by rw [← hAe]; exact Or.inr h
  have hS : va_S A s.heap s.heap [] := va_S.rf
  have hDk : ∀ w : CS, va_D A (wM cI cZ q0 w) := fun w => D_M hD
  have hl := lv_entry ([.ref (q0 0), .int p0, .int p1, .int p2]) (n := 7) (Nat.le_of_ble_eq_true rfl)
  rw [lg_entry_eq]
  generalize (lg_sl ([.ref (q0 0), .int p0, .int p1, .int p2]) ++ List.replicate (7 - (lg_sl ([.ref (q0 0), .int p0, .int p1, .int p2])).length) Slot.unset).toArray = ls at hl ⊢
  have hl : lv_has ls 7 [(0, .ref (q0 0)), (1, .int p0), (2, .int p1), (3, .int p2)] := hl
  unfold wp_X7_eatOn at hf
  have k_65 : ∀ (x1 : Int32) (x3 : Int32) (x4 : Int32) (x5 : Int32) (s0 : CS) (H : Heap) (locs : List Loc) (ls : Array Slot), B_X7_eatOn_65  x1 x3 x4 x5 s0 Q → va_P D classes (wM cI cZ q0 s0) H → va_D A (wM cI cZ q0 s0) → va_S A s.heap H locs → lv_has ls 7 [(0, .ref (q0 0)), (1, .int x1), (3, .int x3), (4, .int x4), (5, .int x5)] → W p l e (headSpec (wsA yX7_eatOn cX7_eatOn 7 (some .int)) ({ frames := 1, cells := 0, slots := 0, locals := 24 })).room s m (#[.ref (q0 0), .int p0, .int p1, .int p2] : Array Value) below meth c H locs 0 0 (MQ below (va_Qi (fun (r : Int32) (u : CS) => Q r u) (fun u t => va_P D classes (wM cI cZ q0 u) t.heap) A) (#[.ref (q0 0), .int p0, .int p1, .int p2] : Array Value) s 0 0 A) (F0 m 65 ls []) := by
    intro x1 x3 x4 x5 s0 H locs ls hf hP hD hS hl
    unfold B_X7_eatOn_65 at hf
    refine lv_aload_n hx hb dX7_eatOn_65 rfl (lv_at hl 0 rfl) ?_
    refine va_get (D := D) (ci := 5) (v := .ref (q0 4)) (C := RX7) (T := TX7) (N := 28) hx hb ht inX7 hown hK hP 0 eM_0 rfl 5 (by decide) (ht _ tw_660) (fun _ h9 => h9) rfl dX7_eatOn_66 ?_
    refine lv_bipush (v := (35 : Int32)) hx hb dX7_eatOn_69 (by decide) ?_
    refine lv_iload_n hx hb dX7_eatOn_71 rfl (lv_at hl 1 rfl) ?_
    refine lv_imul hx hb dX7_eatOn_72 ?_
    refine lv_iload_n hx hb dX7_eatOn_73 rfl (lv_at hl 2 rfl) ?_
    refine lv_iadd hx hb dX7_eatOn_74 ?_
    refine lv_bipush (v := (8 : Int32)) hx hb dX7_eatOn_75 (by decide) ?_
    obtain ⟨hi_1, hf⟩ := hf
    refine va_iast hx hb hK hP hD hS 4 0 eM_4 rfl hi_1 dX7_eatOn_77 (fun H locs hP hD hS => ?_)
    obtain ⟨s0_2, es0_2⟩ : ∃ y : CS, y = sA s0 5 (((35 : Int32) * x1) + x3).toNatClampNeg (8 : Int32) := ⟨_, rfl⟩
    have hf := hf s0_2 es0_2
    have hD := hDk s0_2
    have hP : va_P D classes (wM cI cZ q0 s0_2) H := by rw [es0_2]; exact PM_F5 hP
    refine lv_iload hx hb dX7_eatOn_78 (lv_at hl 4 rfl) ?_
    refine lv_bipush (v := (7 : Int32)) hx hb dX7_eatOn_80 (by decide) ?_
    refine lv_icmp_eq (tgt := 102) hx hb dX7_eatOn_82 (by decide) (fun c_3 => ?_) (fun c_3 => ?_)
    · have hf := hf.1 c_3
      refine lv_iload hx hb dX7_eatOn_102 (lv_at hl 3 rfl) ?_
      exact W.iret (v := x4) hx hb hr (fun t ht hW => ⟨⟨x4, s0_2, rfl, hf, P_heap ht hP⟩, hS.F ht⟩) hS.2.2 dX7_eatOn_104
    · have hf := hf.2 c_3
      refine lv_aload_n hx hb dX7_eatOn_85 rfl (lv_at hl 0 rfl) ?_
      refine lv_iload_n hx hb dX7_eatOn_86 rfl (lv_at hl 1 rfl) ?_
      refine lv_iload hx hb dX7_eatOn_87 (lv_at hl 4 rfl) ?_
      have hPc : va_P D classes (wM cI cZ q0 s0_2) H := hP
      refine vp_callSi (W.runV (As := [.int x1, .int x5]) (rest := []) ⟨hx, hb, hml, hown, hts⟩ (c_X7_of l D cI cZ cW q0 x1 x5 s0_2 _ hf) ⟨callB_of 2 hts (gA tw_807) rfl rfl rfl (ht _ tw_7) (ht _ tw_804) hd_X7_of ⟨Nat.le_of_ble_eq_true rfl, Nat.le_of_ble_eq_true rfl⟩, ht _ tw_806, ht _ twp_25⟩ ⟨PR_blind, va_recv hK hP (ci := 5) (q0 := 0) rfl eM_0, fun U hU hW => PR_mk hPc hK hU hW⟩ rfl rfl hl.1 rfl (lv_room (Nat.le_of_ble_eq_true rfl)) dX7_eatOn_89 ⟨Nat.zero_le _, Nat.zero_le _⟩) (fun r_4 hf => ?_)
      refine lv_if_ne (tgt := 102) hx hb dX7_eatOn_92 (by decide) (fun c_5 => ?_) (fun c_5 => ?_)
      · have hf := hf.1 c_5
        refine lv_iload hx hb dX7_eatOn_102 (lv_at hl 3 rfl) ?_
        exact W.iret (v := x4) hx hb hr (fun t ht hW => ⟨⟨x4, s0_2, rfl, hf, P_heap ht hP⟩, hS.F ht⟩) hS.2.2 dX7_eatOn_104
      · have hf := hf.2 c_5
        refine lv_aload_n hx hb dX7_eatOn_95 rfl (lv_at hl 0 rfl) ?_
        refine lv_iload_n hx hb dX7_eatOn_96 rfl (lv_at hl 1 rfl) ?_
        refine lv_iload hx hb dX7_eatOn_97 (lv_at hl 4 rfl) ?_
        have hPc : va_P D classes (wM cI cZ q0 s0_2) H := hP
        have hDc : va_D A (wM cI cZ q0 s0_2) := hD
        have hFc := va_free (wc := (wM cI cZ q0 s0_2)) hD hS hA [0, 1, 2, 3, 4, 5, 6, 7, 8, 9, 10, 11, 12, 13, 14, 15] rfl
        refine va_callv (va_runV (As := [.int x1, .int x5]) (rest := []) ⟨hx, hb, hml, hown, hts⟩ (c_X7_endHole l D cI cZ cW q0 H.size x1 x5 s0_2 _ hf) ⟨callB_of 2 hts (gA tw_864) rfl rfl rfl (ht _ tw_7) (ht _ tw_861) hd_X7_endHole ⟨Nat.le_of_ble_eq_true rfl, Nat.le_of_ble_eq_true rfl⟩, ht _ tw_863, ht _ twp_35⟩ ⟨PW_blind, va_recv hK hP (ci := 5) (q0 := 0) rfl eM_0, fun U hU hW => PW_mk hPc hDc hK hU hW⟩ rfl rfl hl.1 rfl (lv_room (Nat.le_of_ble_eq_true rfl)) dX7_eatOn_99 ⟨Nat.zero_le _, Nat.zero_le _⟩) hS (fun q _ h => hFc q h) hFc (fun u t H1 locs ht1 hvm hf hB hz1 hk1 hS => ?_)
        obtain ⟨s0_6, rfl⟩ : ∃ z, z = u := ⟨_, rfl⟩
        rw [ht1] at hB
        have hP := hB
        have hD := hDk s0_6
        generalize H1 = H at hP hS ⊢
        have hP : va_P D classes (wM cI cZ q0 s0_6) H := hP
        have hD : va_D A (wM cI cZ q0 s0_6) := hD
        refine lv_iload hx hb dX7_eatOn_102 (lv_at hl 3 rfl) ?_
        exact W.iret (v := x4) hx hb hr (fun t ht hW => ⟨⟨x4, s0_6, rfl, hf, P_heap ht hP⟩, hS.F ht⟩) hS.2.2 dX7_eatOn_104
  have k_49 : ∀ (x1 : Int32) (x2 : Int32) (x3 : Int32) (x4 : Int32) (x5 : Int32) (t0 : Int32) (s0 : CS) (H : Heap) (locs : List Loc) (ls : Array Slot), B_X7_eatOn_49  x1 x2 x3 x4 x5 t0 s0 Q → va_P D classes (wM cI cZ q0 s0) H → va_D A (wM cI cZ q0 s0) → va_S A s.heap H locs → lv_has ls 7 [(0, .ref (q0 0)), (1, .int x1), (2, .int x2), (3, .int x3), (4, .int x4), (5, .int x5)] → W p l e (headSpec (wsA yX7_eatOn cX7_eatOn 7 (some .int)) ({ frames := 1, cells := 0, slots := 0, locals := 24 })).room s m (#[.ref (q0 0), .int p0, .int p1, .int p2] : Array Value) below meth c H locs 0 0 (MQ below (va_Qi (fun (r : Int32) (u : CS) => Q r u) (fun u t => va_P D classes (wM cI cZ q0 u) t.heap) A) (#[.ref (q0 0), .int p0, .int p1, .int p2] : Array Value) s 0 0 A) (F0 m 49 ls [.int t0]) := by
    intro x1 x2 x3 x4 x5 t0 s0 H locs ls hf hP hD hS hl
    unfold B_X7_eatOn_49 at hf
    refine lv_istore (lv' := [(6, .int t0), (0, .ref (q0 0)), (1, .int x1), (2, .int x2), (3, .int x3), (4, .int x4), (5, .int x5)]) hx hb dX7_eatOn_49 hl (by decide) rfl (fun ls hl => ?_)
    refine lv_iload hx hb dX7_eatOn_51 (lv_at hl 0 rfl) ?_
    refine lv_if_ne (tgt := 65) hx hb dX7_eatOn_53 (by decide) (fun c_7 => ?_) (fun c_7 => ?_)
    · have hf := hf.1 c_7
      exact k_65 x1 x3 x4 x5 s0 H locs ls hf hP hD hS (lv_sub hl [1, 2, 4, 5, 6] rfl)
    · have hf := hf.2 c_7
      refine lv_aload_n hx hb dX7_eatOn_56 rfl (lv_at hl 1 rfl) ?_
      refine lv_iload_n hx hb dX7_eatOn_57 rfl (lv_at hl 2 rfl) ?_
      refine lv_iload_n hx hb dX7_eatOn_58 rfl (lv_at hl 3 rfl) ?_
      refine lv_iload hx hb dX7_eatOn_59 (lv_at hl 5 rfl) ?_
      refine lv_iconst (v := (1 : Int32)) hx hb dX7_eatOn_61 (by decide) ?_
      have hPc : va_P D classes (wM cI cZ q0 s0) H := hP
      have hDc : va_D A (wM cI cZ q0 s0) := hD
      have hFc := va_free (wc := (wM cI cZ q0 s0)) hD hS hA [0, 1, 2, 3, 4, 5, 6, 7, 8, 9, 10, 11, 12, 13, 14, 15] rfl
      refine va_callv (va_runV (As := [.int x1, .int x2, .int x4, .int (1 : Int32)]) (rest := []) ⟨hx, hb, hml, hown, hts⟩ (c_X7_pay l D cI cZ cW q0 H.size x1 x2 x4 (1 : Int32) s0 _ hf) ⟨callB_of 4 hts (gA tw_852) rfl rfl rfl (ht _ tw_7) (ht _ tw_849) hd_X7_pay ⟨Nat.le_of_ble_eq_true rfl, Nat.le_of_ble_eq_true rfl⟩, ht _ tw_851, ht _ twp_32⟩ ⟨PW_blind, va_recv hK hP (ci := 5) (q0 := 0) rfl eM_0, fun U hU hW => PW_mk hPc hDc hK hU hW⟩ rfl rfl hl.1 rfl (lv_room (Nat.le_of_ble_eq_true rfl)) dX7_eatOn_62 ⟨Nat.zero_le _, Nat.zero_le _⟩) hS (fun q _ h => hFc q h) hFc (fun u t H1 locs ht1 hvm hf hB hz1 hk1 hS => ?_)
      obtain ⟨s0_8, rfl⟩ : ∃ z, z = u := ⟨_, rfl⟩
      rw [ht1] at hB
      have hP := hB
      have hD := hDk s0_8
      generalize H1 = H at hP hS ⊢
      have hP : va_P D classes (wM cI cZ q0 s0_8) H := hP
      have hD : va_D A (wM cI cZ q0 s0_8) := hD
      exact k_65 x1 x3 x4 x5 s0_8 H locs ls hf hP hD hS (lv_sub hl [1, 2, 4, 5, 6] rfl)
  have k_44 : ∀ (x1 : Int32) (x2 : Int32) (x3 : Int32) (x4 : Int32) (x5 : Int32) (s0 : CS) (H : Heap) (locs : List Loc) (ls : Array Slot), B_X7_eatOn_44  x1 x2 x3 x4 x5 s0 Q → va_P D classes (wM cI cZ q0 s0) H → va_D A (wM cI cZ q0 s0) → va_S A s.heap H locs → lv_has ls 7 [(0, .ref (q0 0)), (1, .int x1), (2, .int x2), (3, .int x3), (4, .int x4), (5, .int x5)] → W p l e (headSpec (wsA yX7_eatOn cX7_eatOn 7 (some .int)) ({ frames := 1, cells := 0, slots := 0, locals := 24 })).room s m (#[.ref (q0 0), .int p0, .int p1, .int p2] : Array Value) below meth c H locs 0 0 (MQ below (va_Qi (fun (r : Int32) (u : CS) => Q r u) (fun u t => va_P D classes (wM cI cZ q0 u) t.heap) A) (#[.ref (q0 0), .int p0, .int p1, .int p2] : Array Value) s 0 0 A) (F0 m 44 ls []) := by
    intro x1 x2 x3 x4 x5 s0 H locs ls hf hP hD hS hl
    unfold B_X7_eatOn_44 at hf
    refine lv_iconst (v := (1 : Int32)) hx hb dX7_eatOn_44 (by decide) ?_
    refine lv_goto (tgt := 49) hx hb dX7_eatOn_45 (by decide) ?_
    exact k_49 x1 x2 x3 x4 x5 (1 : Int32) s0 H locs ls hf hP hD hS (lv_sub hl [0, 1, 2, 3, 4, 5] rfl)
  have k_48 : ∀ (x1 : Int32) (x2 : Int32) (x3 : Int32) (x4 : Int32) (x5 : Int32) (s0 : CS) (H : Heap) (locs : List Loc) (ls : Array Slot), B_X7_eatOn_48  x1 x2 x3 x4 x5 s0 Q → va_P D classes (wM cI cZ q0 s0) H → va_D A (wM cI cZ q0 s0) → va_S A s.heap H locs → lv_has ls 7 [(0, .ref (q0 0)), (1, .int x1), (2, .int x2), (3, .int x3), (4, .int x4), (5, .int x5)] → W p l e (headSpec (wsA yX7_eatOn cX7_eatOn 7 (some .int)) ({ frames := 1, cells := 0, slots := 0, locals := 24 })).room s m (#[.ref (q0 0), .int p0, .int p1, .int p2] : Array Value) below meth c H locs 0 0 (MQ below (va_Qi (fun (r : Int32) (u : CS) => Q r u) (fun u t => va_P D classes (wM cI cZ q0 u) t.heap) A) (#[.ref (q0 0), .int p0, .int p1, .int p2] : Array Value) s 0 0 A) (F0 m 48 ls []) := by
    intro x1 x2 x3 x4 x5 s0 H locs ls hf hP hD hS hl
    unfold B_X7_eatOn_48 at hf
    refine lv_iconst (v := (0 : Int32)) hx hb dX7_eatOn_48 (by decide) ?_
    exact k_49 x1 x2 x3 x4 x5 (0 : Int32) s0 H locs ls hf hP hD hS (lv_sub hl [0, 1, 2, 3, 4, 5] rfl)
  have start : ∀ (H : Heap) (locs : List Loc), va_P D classes (wM cI cZ q0 s0) H → va_D A (wM cI cZ q0 s0) → va_S A s.heap H locs → W p l e (headSpec (wsA yX7_eatOn cX7_eatOn 7 (some .int)) ({ frames := 1, cells := 0, slots := 0, locals := 24 })).room s m (#[.ref (q0 0), .int p0, .int p1, .int p2] : Array Value) below meth c H locs 0 0 (MQ below (va_Qi (fun (r : Int32) (u : CS) => Q r u) (fun u t => va_P D classes (wM cI cZ q0 u) t.heap) A) (#[.ref (q0 0), .int p0, .int p1, .int p2] : Array Value) s 0 0 A) (F0 m 0 ls []) := by
    intro H locs hP hD hS
    refine lv_aload_n hx hb dX7_eatOn_0 rfl (lv_at hl 0 rfl) ?_
    refine lv_iload_n hx hb dX7_eatOn_1 rfl (lv_at hl 1 rfl) ?_
    refine lv_iload_n hx hb dX7_eatOn_2 rfl (lv_at hl 3 rfl) ?_
    have hPc : va_P D classes (wM cI cZ q0 s0) H := hP
    refine vp_callSi (W.runV (As := [.int p0, .int p2]) (rest := []) ⟨hx, hb, hml, hown, hts⟩ (c_X7_ownerOf l D cI cZ cW q0 p0 p2 s0 _ hf) ⟨callB_of 2 hts (gA tw_792) rfl rfl rfl (ht _ tw_7) (ht _ tw_789) hd_X7_ownerOf ⟨Nat.le_of_ble_eq_true rfl, Nat.le_of_ble_eq_true rfl⟩, ht _ tw_791, ht _ twp_23⟩ ⟨PR_blind, va_recv hK hP (ci := 5) (q0 := 0) rfl eM_0, fun U hU hW => PR_mk hPc hK hU hW⟩ rfl rfl hl.1 rfl (lv_room (Nat.le_of_ble_eq_true rfl)) dX7_eatOn_3 ⟨Nat.zero_le _, Nat.zero_le _⟩) (fun r_9 hf => ?_)
    refine lv_istore (lv' := [(4, .int r_9), (0, .ref (q0 0)), (1, .int p0), (2, .int p1), (3, .int p2)]) hx hb dX7_eatOn_6 hl (by decide) rfl (fun ls hl => ?_)
    refine lv_aload_n hx hb dX7_eatOn_8 rfl (lv_at hl 1 rfl) ?_
    refine va_get (D := D) (ci := 5) (v := .ref (q0 4)) (C := RX7) (T := TX7) (N := 28) hx hb ht inX7 hown hK hP 0 eM_0 rfl 5 (by decide) (ht _ tw_660) (fun _ h9 => h9) rfl dX7_eatOn_9 ?_
    refine lv_bipush (v := (35 : Int32)) hx hb dX7_eatOn_12 (by decide) ?_
    refine lv_iload_n hx hb dX7_eatOn_14 rfl (lv_at hl 2 rfl) ?_
    refine lv_imul hx hb dX7_eatOn_15 ?_
    refine lv_iload_n hx hb dX7_eatOn_16 rfl (lv_at hl 4 rfl) ?_
    refine lv_iadd hx hb dX7_eatOn_17 ?_
    obtain ⟨hi_10, hf⟩ := hf
    refine va_iald hx hb hK hP 4 0 eM_4 rfl hi_10 dX7_eatOn_18 ?_
    refine lv_topi (fun x5_11 ex5_11 => ?_)
    have hf := hf x5_11 ex5_11
    refine lv_istore (lv' := [(5, .int x5_11), (4, .int r_9), (0, .ref (q0 0)), (1, .int p0), (2, .int p1), (3, .int p2)]) hx hb dX7_eatOn_19 hl (by decide) rfl (fun ls hl => ?_)
    refine lv_iload hx hb dX7_eatOn_21 (lv_at hl 1 rfl) ?_
    refine lv_iload_n hx hb dX7_eatOn_23 rfl (lv_at hl 4 rfl) ?_
    refine lv_icmp_eq (tgt := 44) hx hb dX7_eatOn_24 (by decide) (fun c_12 => ?_) (fun c_12 => ?_)
    · have hf := hf.1 c_12
      exact k_44 p0 p1 p2 r_9 x5_11 s0 H locs ls hf hP hD hS (lv_sub hl [2, 3, 4, 5, 1, 0] rfl)
    · have hf := hf.2 c_12
      refine lv_iload hx hb dX7_eatOn_27 (lv_at hl 0 rfl) ?_
      refine lv_bipush (v := (7 : Int32)) hx hb dX7_eatOn_29 (by decide) ?_
      refine lv_icmp_ne (tgt := 48) hx hb dX7_eatOn_31 (by decide) (fun c_13 => ?_) (fun c_13 => ?_)
      · have hf := hf.1 c_13
        exact k_48 p0 p1 p2 r_9 x5_11 s0 H locs ls hf hP hD hS (lv_sub hl [2, 3, 4, 5, 1, 0] rfl)
      · have hf := hf.2 c_13
        refine lv_aload_n hx hb dX7_eatOn_34 rfl (lv_at hl 2 rfl) ?_
        refine va_get (D := D) (ci := 5) (v := .ref (q0 1)) (C := RX7) (T := TX7) (N := 28) hx hb ht inX7 hown hK hP 0 eM_0 rfl 2 (by decide) (ht _ tw_657) (fun _ h9 => h9) rfl dX7_eatOn_35 ?_
        refine lv_iload_n hx hb dX7_eatOn_38 rfl (lv_at hl 4 rfl) ?_
        obtain ⟨hi_14, hf⟩ := hf
        refine va_iald hx hb hK hP 1 0 eM_1 rfl hi_14 dX7_eatOn_39 ?_
        refine lv_iconst (v := (2 : Int32)) hx hb dX7_eatOn_40 (by decide) ?_
        refine lv_icmp_ne (tgt := 48) hx hb dX7_eatOn_41 (by decide) (fun c_15 => ?_) (fun c_15 => ?_)
        · have hf := hf.1 c_15
          exact k_48 p0 p1 p2 r_9 x5_11 s0 H locs ls hf hP hD hS (lv_sub hl [2, 3, 4, 5, 1, 0] rfl)
        · have hf := hf.2 c_15
          exact k_44 p0 p1 p2 r_9 x5_11 s0 H locs ls hf hP hD hS (lv_sub hl [2, 3, 4, 5, 1, 0] rfl)
  exact start s.heap [] hP hD hS
def wp_X7_eat (p0 : Int32) (p1 : Int32) (s0 : CS) (Q : Int32 → CS → Prop) : Prop := wp_X7_isOwner p0 s0 (fun r_1 => ((r_1 = 0 → Q (-1 : Int32) s0) ∧ (¬ r_1 = 0 → wp_X7_isCell p1 (fun r_3 => ((¬ r_3 = 0 → wp_X7_canEat (0 : Int32) p0 p1 s0 (fun r_5 => ((¬ r_5 = 0 → wp_X7_keepAct s0 (fun s0_7 => wp_X7_eatOn (0 : Int32) p0 p1 s0_7 (fun r_9 s0_8 => Q r_9 s0_8))) ∧ (r_5 = 0 → Q (-3 : Int32) s0)))) ∧ (r_3 = 0 → Q (-1 : Int32) s0))))))
set_option maxHeartbeats 4000000 in
set_option maxRecDepth 100000 in
theorem c_X7_eat (l : Launch) (D : va_G) (cI cZ cW : ClassId) (q0 : Nat → Nat) (sz : Nat) (p0 : Int32) (p1 : Int32) (s0 : CS) (Q : Int32 → CS → Prop) (hf : wp_X7_eat p0 p1 s0 Q) : Met l yX7_eat (wsA yX7_eat cX7_eat 3 (some .int)) ({ frames := 3, cells := 0, slots := 0, locals := 69 }) (PW D cI cZ cW [.ref (q0 0), .int p0, .int p1] (wM cI cZ q0 s0) sz) (va_Qi (fun (r : Int32) (u : CS) => Q r u) (fun u t => va_P D classes (wM cI cZ q0 u) t.heap) (va_A (wM cI cZ q0 s0) sz)) 0 0 (va_A (wM cI cZ q0 s0) sz) := by
  refine Met.ofW (cc := cX7_eat) (maxL := 3) (ret := (some .int)) (by decide) rfl ?_
  intro p e s m args below meth c s₁ B hml hv
  obtain ⟨rfl, hsz, hP, hK, hD0⟩ := hv
  have hx := B.exec
  have hb := B.bytes
  have hr := B.returns
  have hts := atoms_spec (ws := (wsA yX7_eat cX7_eat 3 (some .int))) B.pre
  have ht : ∀ w ∈ lw_g, w.before _ s = true := fun w h => hts w (List.mem_cons_of_mem _ h)
  have hown : s.vm.findClass RX7 = some m.cls := findClass_of_methodNamed B.named
  have hlocks := B.notSynchronized
  subst hsz
  have hD := hD0.self (sz := s.heap.size)
  generalize hAe : va_A (wM cI cZ q0 s0) s.heap.size = A at hD ⊢
  have hA : ∀ q : Nat, s.heap.size ≤ q → A q := fun q h => by rw [← hAe]; exact Or.inr h
  have hS : va_S A s.heap s.heap [] := va_S.rf
  have hDk : ∀ w : CS, va_D A (wM cI cZ q0 w) := fun w => D_M hD
  have hl := lv_entry ([.ref (q0 0), .int p0, .int p1]) (n := 3) (Nat.le_of_ble_eq_true rfl)
  rw [lg_entry_eq]
  generalize (lg_sl ([.ref (q0 0), .int p0, .int p1]) ++ List.replicate (3 - (lg_sl ([.ref (q0 0), .int p0, .int p1])).length) Slot.unset).toArray = ls at hl ⊢
  have hl : lv_has ls 3 [(0, .ref (q0 0)), (1, .int p0), (2, .int p1)] := hl
  unfold wp_X7_eat at hf
  have start : ∀ (H : Heap) (locs : List Loc), va_P D classes (wM cI cZ q0 s0) H → va_D A (wM cI cZ q0 s0) → va_S A s.heap H locs → W p l e (headSpec (wsA yX7_eat cX7_eat 3 (some .int)) ({ frames := 3, cells := 0, slots := 0, locals := 69 })).room s m (#[.ref (q0 0), .int p0, .int p1] : Array Value) below meth c H locs 0 0 (MQ below (va_Qi (fun (r : Int32) (u : CS) => Q r u) (fun u t => va_P D classes (wM cI cZ q0 u) t.heap) A) (#[.ref (q0 0), .int p0, .int p1] : Array Value) s 0 0 A) (F0 m 0 ls []) := by
    intro H locs hP hD hS
    refine lv_aload_n hx hb dX7_eat_0 rfl (lv_at hl 0 rfl) ?_
    refine lv_iload_n hx hb dX7_eat_1 rfl (lv_at hl 1 rfl) ?_
    have hPc : va_P D classes (wM cI cZ q0 s0) H := hP
    refine vp_callSi (W.runV (As := [.int p0]) (rest := []) ⟨hx, hb, hml, hown, hts⟩ (c_X7_isOwner l D cI cZ cW q0 p0 s0 _ hf) ⟨callB_of 1 hts (gA tw_784) rfl rfl rfl (ht _ tw_7) (ht _ tw_781) hd_X7_isOwner ⟨Nat.le_of_ble_eq_true rfl, Nat.le_of_ble_eq_true rfl⟩, ht _ tw_783, ht _ twp_21⟩ ⟨PR_blind, va_recv hK hP (ci := 5) (q0 := 0) rfl eM_0, fun U hU hW => PR_mk hPc hK hU hW⟩ rfl rfl hl.1 rfl (lv_room (Nat.le_of_ble_eq_true rfl)) dX7_eat_2 ⟨Nat.zero_le _, Nat.zero_le _⟩) (fun r_1 hf => ?_)
    refine lv_if_eq (tgt := 15) hx hb dX7_eat_5 (by decide) (fun c_2 => ?_) (fun c_2 => ?_)
    · have hf := hf.1 c_2
      refine lv_iconst (v := (-1 : Int32)) hx hb dX7_eat_15 (by decide) ?_
      exact W.iret (v := (-1 : Int32)) hx hb hr (fun t ht hW => ⟨⟨(-1 : Int32), s0, rfl, hf, P_heap ht hP⟩, hS.F ht⟩) hS.2.2 dX7_eat_16
    · have hf := hf.2 c_2
      refine lv_iload_n hx hb dX7_eat_8 rfl (lv_at hl 2 rfl) ?_
      have hPc : va_P D classes ([] : va_W) H := hP.sub [] rfl
      refine vp_callSi (W.runS (As := [.int p1]) (rest := []) ⟨hx, hb, hml, hown, hts⟩ (c_X7_isCell l D cI cZ cW  p1 _ hf) ⟨callB_of 1 hts (gA tw_814) rfl rfl rfl (ht _ tw_7) (ht _ tw_812) hd_X7_isCell ⟨Nat.le_of_ble_eq_true rfl, Nat.le_of_ble_eq_true rfl⟩, ht _ tw_813⟩ ⟨PR_blind, fun U hU hW => PR_mk hPc hK hU hW⟩ rfl rfl hl.1 rfl (lv_room (Nat.le_of_ble_eq_true rfl)) dX7_eat_9 ⟨Nat.zero_le _, Nat.zero_le _⟩) (fun r_3 hf => ?_)
      refine lv_if_ne (tgt := 17) hx hb dX7_eat_12 (by decide) (fun c_4 => ?_) (fun c_4 => ?_)
      · have hf := hf.1 c_4
        refine lv_aload_n hx hb dX7_eat_17 rfl (lv_at hl 0 rfl) ?_
        refine lv_iconst (v := (0 : Int32)) hx hb dX7_eat_18 (by decide) ?_
        refine lv_iload_n hx hb dX7_eat_19 rfl (lv_at hl 1 rfl) ?_
        refine lv_iload_n hx hb dX7_eat_20 rfl (lv_at hl 2 rfl) ?_
        have hPc : va_P D classes (wM cI cZ q0 s0) H := hP
        refine vp_callSi (W.runV (As := [.int (0 : Int32), .int p0, .int p1]) (rest := []) ⟨hx, hb, hml, hown, hts⟩ (c_X7_canEat l D cI cZ cW q0 (0 : Int32) p0 p1 s0 _ hf) ⟨callB_of 3 hts (gA tw_872) rfl rfl rfl (ht _ tw_7) (ht _ tw_869) hd_X7_canEat ⟨Nat.le_of_ble_eq_true rfl, Nat.le_of_ble_eq_true rfl⟩, ht _ tw_871, ht _ twp_36⟩ ⟨PR_blind, va_recv hK hP (ci := 5) (q0 := 0) rfl eM_0, fun U hU hW => PR_mk hPc hK hU hW⟩ rfl rfl hl.1 rfl (lv_room (Nat.le_of_ble_eq_true rfl)) dX7_eat_21 ⟨Nat.zero_le _, Nat.zero_le _⟩) (fun r_5 hf => ?_)
        refine lv_if_ne (tgt := 30) hx hb dX7_eat_24 (by decide) (fun c_6 => ?_) (fun c_6 => ?_)
        · have hf := hf.1 c_6
          refine lv_aload_n hx hb dX7_eat_30 rfl (lv_at hl 0 rfl) ?_
          have hPc : va_P D classes (wM cI cZ q0 s0) H := hP
          have hDc : va_D A (wM cI cZ q0 s0) := hD
          have hFc := va_free (wc := (wM cI cZ q0 s0)) hD hS hA [0, 1, 2, 3, 4, 5, 6, 7, 8, 9, 10, 11, 12, 13, 14, 15] rfl
          refine va_callv (va_runV (As := []) (rest := []) ⟨hx, hb, hml, hown, hts⟩ (c_X7_keepAct l D cI cZ cW q0 H.size s0 _ hf) ⟨callB_of 0 hts (gA tw_822) rfl rfl rfl (ht _ tw_7) (ht _ tw_819) hd_X7_keepAct ⟨Nat.le_of_ble_eq_true rfl, Nat.le_of_ble_eq_true rfl⟩, ht _ tw_821, ht _ twp_26⟩ ⟨PW_blind, va_recv hK hP (ci := 5) (q0 := 0) rfl eM_0, fun U hU hW => PW_mk hPc hDc hK hU hW⟩ rfl rfl hl.1 rfl (lv_room (Nat.le_of_ble_eq_true rfl)) dX7_eat_31 ⟨Nat.zero_le _, Nat.zero_le _⟩) hS (fun q _ h => hFc q h) hFc (fun u t H1 locs ht1 hvm hf hB hz1 hk1 hS => ?_)
          obtain ⟨s0_7, rfl⟩ : ∃ z, z = u := ⟨_, rfl⟩
          rw [ht1] at hB
          have hP := hB
          have hD := hDk s0_7
          generalize H1 = H at hP hS ⊢
          have hP : va_P D classes (wM cI cZ q0 s0_7) H := hP
          have hD : va_D A (wM cI cZ q0 s0_7) := hD
          refine lv_aload_n hx hb dX7_eat_34 rfl (lv_at hl 0 rfl) ?_
          refine lv_iconst (v := (0 : Int32)) hx hb dX7_eat_35 (by decide) ?_
          refine lv_iload_n hx hb dX7_eat_36 rfl (lv_at hl 1 rfl) ?_
          refine lv_iload_n hx hb dX7_eat_37 rfl (lv_at hl 2 rfl) ?_
          have hPc : va_P D classes (wM cI cZ q0 s0_7) H := hP
          have hDc : va_D A (wM cI cZ q0 s0_7) := hD
          have hFc := va_free (wc := (wM cI cZ q0 s0_7)) hD hS hA [0, 1, 2, 3, 4, 5, 6, 7, 8, 9, 10, 11, 12, 13, 14, 15] rfl
          refine va_calli (va_runV (As := [.int (0 : Int32), .int p0, .int p1]) (rest := []) ⟨hx, hb, hml, hown, hts⟩ (c_X7_eatOn l D cI cZ cW q0 H.size (0 : Int32) p0 p1 s0_7 _ hf) ⟨callB_of 3 hts (gA tw_876) rfl rfl rfl (ht _ tw_7) (ht _ tw_873) hd_X7_eatOn ⟨Nat.le_of_ble_eq_true rfl, Nat.le_of_ble_eq_true rfl⟩, ht _ tw_875, ht _ twp_37⟩ ⟨PW_blind, va_recv hK hP (ci := 5) (q0 := 0) rfl eM_0, fun U hU hW => PW_mk hPc hDc hK hU hW⟩ rfl rfl hl.1 rfl (lv_room (Nat.le_of_ble_eq_true rfl)) dX7_eat_38 ⟨Nat.zero_le _, Nat.zero_le _⟩) hS (fun q _ h => hFc q h) hFc (fun r_9 u t H1 locs ht1 hvm hf hB hz1 hk1 hS => ?_)
          obtain ⟨s0_8, rfl⟩ : ∃ z, z = u := ⟨_, rfl⟩
          rw [ht1] at hB
          have hP := hB
          have hD := hDk s0_8
          generalize H1 = H at hP hS ⊢
          have hP : va_P D classes (wM cI cZ q0 s0_8) H := hP
          have hD : va_D A (wM cI cZ q0 s0_8) := hD
          exact W.iret (v := r_9) hx hb hr (fun t ht hW => ⟨⟨r_9, s0_8, rfl, hf, P_heap ht hP⟩, hS.F ht⟩) hS.2.2 dX7_eat_41
        · have hf := hf.2 c_6
          refine lv_bipush (v := (-3 : Int32)) hx hb dX7_eat_27 (by decide) ?_
          exact W.iret (v := (-3 : Int32)) hx hb hr (fun t ht hW => ⟨⟨(-3 : Int32), s0, rfl, hf, P_heap ht hP⟩, hS.F ht⟩) hS.2.2 dX7_eat_29
      · have hf := hf.2 c_4
        refine lv_iconst (v := (-1 : Int32)) hx hb dX7_eat_15 (by decide) ?_
        exact W.iret (v := (-1 : Int32)) hx hb hr (fun t ht hW => ⟨⟨(-1 : Int32), s0, rfl, hf, P_heap ht hP⟩, hS.F ht⟩) hS.2.2 dX7_eat_16
  exact start s.heap [] hP hD hS
